/-! ===== rows as functions; sums ===== -/
def gRow (ty : Nat → Nat) (q : Nat) (f : Nat → Int) (h : gH) : Prop := (∀ k, gpl rT q k = 1000 * q + 999) ∧ ∀ c, ty c = q → ∀ i, i < 514 → gvI (h.2.2.2.2 c i) = f i
def gfu (f : Nat → Int) (i : Nat) (v : Int) : Nat → Int := fun j => if j = i then v else f j
theorem gfu_eq {f : Nat → Int} {i : Nat} {v : Int} : gfu f i v i = v := if_pos rfl
theorem gfu_ne {f : Nat → Int} {i j : Nat} {v : Int} (h : j ≠ i) : gfu f i v j = f j := if_neg h
theorem gRow.fr {ty : Nat → Nat} {q : Nat} {f : Nat → Int} {h h' : gH} {l : List Nat} (g : gFr rT ty l h h') (hl : ¬ (1000 * q + 999) ∈ l) (p : gRow ty q f h) : gRow ty q f h' := ⟨p.1, fun c hc i hi => by
  rw [g.2.2.2.2 c i (by rw [hc, p.1]; exact hl)]
  exact p.2 c hc i hi⟩
theorem gRow.pt {ty : Nat → Nat} {q b j q2 : Nat} {f : Nat → Int} {h h' : gH} (g : ∀ x n, ¬ (x = b ∧ n = j) → h'.2.2.2.2 x n = h.2.2.2.2 x n) (ht : ty b = q2) (hq : q2 ≠ q) (p : gRow ty q f h) : gRow ty q f h' := ⟨p.1, fun c hc i hi => by
  rw [g c i (fun w => hq (by rw [← ht, ← hc, w.1]))]
  exact p.2 c hc i hi⟩
theorem gRow.at {ty : Nat → Nat} {q c : Nat} {f : Nat → Int} {h : gH} {i z : Int} (p : gRow ty q f h) (ht : ty c = q) (e : h.2.2.2.2 c i.toNat = .int (zi z)) (h1 : -2147483648 ≤ z) (h2 : z ≤ 2147483647) (hi : i.toNat < 514) : f i.toNat = z := by
  rw [← p.2 c ht _ hi, e]
  exact zi_in (by omega)
theorem gRow.put {ty : Nat → Nat} {q c : Nat} {f : Nat → Int} {h h' : gH} {i z : Int} (uq : gUq ty) (ht : ty c = q) (hq : 1 ≤ q ∧ q < 100) (g : ∀ x n, ¬ (x = c ∧ n = i.toNat) → h'.2.2.2.2 x n = h.2.2.2.2 x n) (e : h'.2.2.2.2 c i.toNat = .int (zi z)) (h1 : -2147483648 ≤ z) (h2 : z ≤ 2147483647) (p : gRow ty q f h) : gRow ty q (gfu f i.toNat z) h' := ⟨p.1, fun c2 hc j hj9 => by
  have e9 : c2 = c := uq c2 c (hc.trans ht.symm) (by rw [hc]; exact hq.1) (by rw [hc]; exact hq.2)
  subst e9
  by_cases hj : j = i.toNat
  · rw [hj, e, gfu_eq]
    exact zi_in (by omega)
  · rw [g c2 j (fun w => hj w.2), gfu_ne hj]
    exact p.2 c2 hc j hj9⟩
theorem gRow.mk {ty : Nat → Nat} {q c : Nat} {h : gH} (uq : gUq ty) (ht : ty c = q) (hq : 1 ≤ q ∧ q < 100) (hT : ∀ k, gpl rT q k = 1000 * q + 999) : gRow ty q (fun i => if i < 514 then gvI (h.2.2.2.2 c i) else 0) h := ⟨hT, fun c2 hc i hi => by
  have e9 : c2 = c := uq c2 c (hc.trans ht.symm) (by rw [hc]; exact hq.1) (by rw [hc]; exact hq.2)
  rw [e9]
  exact (if_pos hi).symm⟩
def gsf (f : Nat → Int) : Nat → Int
  | 0 => 0
  | k + 1 => gsf f k + f k
theorem gsf_cg {f g : Nat → Int} : ∀ {n : Nat}, (∀ j, j < n → f j = g j) → gsf f n = gsf g n
  | 0, _ => rfl
  | n + 1, e => by
    show gsf f n + f n = gsf g n + g n
    rw [gsf_cg (n := n) (fun j hj => e j (by omega)), e n (by omega)]
theorem gsf_up {f : Nat → Int} {i : Nat} {v : Int} : ∀ {n : Nat}, i < n → gsf (gfu f i v) n = gsf f n - f i + v
  | 0, h => absurd h (Nat.not_lt_zero _)
  | n + 1, h => by
    show gsf (gfu f i v) n + gfu f i v n = gsf f n + f n - f i + v
    by_cases e : i = n
    · subst e
      rw [gsf_cg (g := f) (fun j hj => gfu_ne (by omega)), gfu_eq]
      omega
    · rw [gsf_up (by omega), gfu_ne (by omega)]
      omega
theorem gsf_zero : ∀ n, gsf (fun _ => (0 : Int)) n = 0
  | 0 => rfl
  | n + 1 => by
    show gsf (fun _ => (0 : Int)) n + 0 = 0
    rw [gsf_zero n]
    rfl
theorem gsf_nn {f : Nat → Int} (hf : ∀ j, 0 ≤ f j) : ∀ n, 0 ≤ gsf f n
  | 0 => Int.le_refl 0
  | n + 1 => by
    have h1 := gsf_nn hf n
    have h2 := hf n
    show 0 ≤ gsf f n + f n
    omega
theorem gsf_mono {f : Nat → Int} (hf : ∀ j, 0 ≤ f j) : ∀ {k n : Nat}, k ≤ n → gsf f k ≤ gsf f n
  | k, 0, h => by
    obtain rfl : k = 0 := by omega
    exact Int.le_refl _
  | k, n + 1, h => by
    by_cases e : k = n + 1
    · rw [e]; exact Int.le_refl _
    · have h1 := gsf_mono hf (k := k) (n := n) (by omega)
      have h2 := hf n
      show gsf f k ≤ gsf f n + f n
      omega
theorem gsf_le {f : Nat → Int} (hf : ∀ j, 0 ≤ f j) {i n : Nat} (h : i < n) : f i ≤ gsf f n := by
  have h1 := gsf_mono hf (k := i + 1) (n := n) (by omega)
  have h2 := gsf_nn hf i
  have h3 : gsf f (i + 1) = gsf f i + f i := rfl
  omega
/-! ===== the tree of codes that suit ===== -/
def glw (w p : Nat → Int) : Nat → Int := fun j => if p j = -1 then w j else 0
def glc (w p : Nat → Int) : Nat → Int := fun j => if p j = -1 ∧ 0 < w j then 1 else 0
/-- which node is the least -/
def gLst (w p : Nat → Int) (n z : Int) : Prop := (z = -1 → ∀ k : Nat, (k : Int) < n → ¬ (0 < w k ∧ p k = -1)) ∧ (z ≠ -1 → 0 ≤ z ∧ z < n ∧ 0 < w z.toNat ∧ p z.toNat = -1 ∧ ∀ k : Nat, (k : Int) < n → 0 < w k → p k = -1 → w z.toNat ≤ w k)
theorem gLst.zero {w p : Nat → Int} : gLst w p 0 (-1) := ⟨fun _ k hk => absurd hk (by omega), fun h => absurd rfl h⟩
theorem gLst.pass {w p : Nat → Int} {k z : Int} (h0 : 0 ≤ k) (g : gLst w p k z) (hn : ¬ (0 < w k.toNat ∧ p k.toNat = -1 ∧ (z = -1 ∨ w k.toNat < w z.toNat))) : gLst w p (k + 1) z := by
  refine ⟨fun e j hj hl => ?_, fun e => ?_⟩
  · by_cases hk : j = k.toNat
    · subst hk
      exact hn ⟨hl.1, hl.2, Or.inl e⟩
    · exact g.1 e j (by omega) hl
  · obtain ⟨a1, a2, a3, a4, a5⟩ := g.2 e
    refine ⟨a1, by omega, a3, a4, fun j hj h1 h2 => ?_⟩
    by_cases hk : j = k.toNat
    · subst hk
      by_cases hw : w z.toNat ≤ w k.toNat
      · exact hw
      · exact absurd ⟨h1, h2, Or.inr (by omega)⟩ hn
    · exact a5 j (by omega) h1 h2
theorem gLst.take {w p : Nat → Int} {k z : Int} (h0 : 0 ≤ k) (g : gLst w p k z) (h1 : 0 < w k.toNat) (h2 : p k.toNat = -1) (hl : z = -1 ∨ w k.toNat ≤ w z.toNat) : gLst w p (k + 1) k := by
  refine ⟨fun e => absurd e (by omega), fun _ => ⟨h0, by omega, h1, h2, fun j hj a b => ?_⟩⟩
  by_cases hk : j = k.toNat
  · rw [hk]; exact Int.le_refl _
  · by_cases e : z = -1
    · exact absurd ⟨a, b⟩ (g.1 e j (by omega))
    · have := (g.2 e).2.2.2.2 j (by omega) a b
      omega
def gTr (w p : Nat → Int) (n : Nat) : Prop := (∀ k, 0 ≤ w k) ∧ (∀ k, k < n → p k = -1 ∨ ∃ m : Nat, p k = (m : Int) ∧ k < m ∧ m < n) ∧ (∀ k, n ≤ k → k < 514 → p k = -1 ∧ w k = 0) ∧ (∀ x c, x < n → c < n → p x ≠ -1 → p c = -1 → 0 < w c → w x ≤ w c) ∧ (∀ x m : Nat, x < n → p x = (m : Int) → w x ≤ w m) ∧ (∀ x m r : Nat, x < n → m < n → p x = (m : Int) → p m = (r : Int) → 2 * w x ≤ w r) ∧ gsf (glw w p) n ≤ 1999 ∧ (n : Int) + gsf (glc w p) n ≤ 514 ∧ 1 ≤ gsf (glc w p) n
theorem gTr.nn {w p : Nat → Int} {n : Nat} (t : gTr w p n) : ∀ k, 0 ≤ w k := t.1
theorem gTr.up {w p : Nat → Int} {n : Nat} (t : gTr w p n) : ∀ k, k < n → p k = -1 ∨ ∃ m : Nat, p k = (m : Int) ∧ k < m ∧ m < n := t.2.1
theorem gTr.hi {w p : Nat → Int} {n : Nat} (t : gTr w p n) : ∀ k, n ≤ k → k < 514 → p k = -1 ∧ w k = 0 := t.2.2.1
theorem gTr.lv {w p : Nat → Int} {n : Nat} (t : gTr w p n) : ∀ x c, x < n → c < n → p x ≠ -1 → p c = -1 → 0 < w c → w x ≤ w c := t.2.2.2.1
theorem gTr.f1 {w p : Nat → Int} {n : Nat} (t : gTr w p n) : ∀ x m : Nat, x < n → p x = (m : Int) → w x ≤ w m := t.2.2.2.2.1
theorem gTr.f2 {w p : Nat → Int} {n : Nat} (t : gTr w p n) : ∀ x m r : Nat, x < n → m < n → p x = (m : Int) → p m = (r : Int) → 2 * w x ≤ w r := t.2.2.2.2.2.1
theorem gTr.ls {w p : Nat → Int} {n : Nat} (t : gTr w p n) : gsf (glw w p) n ≤ 1999 := t.2.2.2.2.2.2.1
theorem gTr.cn {w p : Nat → Int} {n : Nat} (t : gTr w p n) : (n : Int) + gsf (glc w p) n ≤ 514 := t.2.2.2.2.2.2.2.1
theorem gTr.c1 {w p : Nat → Int} {n : Nat} (t : gTr w p n) : 1 ≤ gsf (glc w p) n := t.2.2.2.2.2.2.2.2
theorem gTr.some {w p : Nat → Int} {n : Nat} {z : Int} (t : gTr w p n) (l : gLst w p (n : Int) z) : z ≠ -1 := by
  intro e
  have h1 := l.1 e
  have h2 : gsf (glc w p) n = gsf (fun _ => 0) n := gsf_cg (fun j hj => if_neg (fun q => h1 j (by omega) ⟨q.2, q.1⟩))
  have h3 : ∀ m, gsf (fun _ => (0 : Int)) m = 0 := by
    intro m
    induction m with
    | zero => rfl
    | succ m ih => show gsf (fun _ => (0 : Int)) m + 0 = 0; omega
  have h4 := t.c1
  rw [h2, h3] at h4
  omega
theorem gTr.bound {w p : Nat → Int} {n k : Nat} (t : gTr w p n) (hk : k < n) (h1 : p k = -1) : w k ≤ 1999 := by
  have h2 : glw w p k = w k := if_pos h1
  have h3 := gsf_le (f := glw w p) (fun j => by unfold glw; split; exact t.nn j; exact Int.le_refl 0) hk
  have h4 := t.ls
  omega
theorem gTr.step {w p : Nat → Int} {n : Nat} {a b : Nat} (t : gTr w p n) (hn : n < 514) (ha : a < n) (hb : b < n) (hab : a ≠ b) (pa : p a = -1) (pb : p b = -1) (wa : 0 < w a) (wb : 0 < w b) (la : ∀ k, k < n → 0 < w k → p k = -1 → w a ≤ w k) (lb : ∀ k, k < n → 0 < w k → p k = -1 → k ≠ a → w b ≤ w k) : gTr (gfu w n (w a + w b)) (gfu (gfu p a (n : Int)) b (n : Int)) (n + 1) := by
  have hp : ∀ k, k ≠ a → k ≠ b → gfu (gfu p a (n : Int)) b (n : Int) k = p k := fun k h1 h2 => by rw [gfu_ne h2, gfu_ne h1]
  have hpa : gfu (gfu p a (n : Int)) b (n : Int) a = (n : Int) := by rw [gfu_ne hab, gfu_eq]
  have hpb : gfu (gfu p a (n : Int)) b (n : Int) b = (n : Int) := gfu_eq
  have hw : ∀ k, k ≠ n → gfu w n (w a + w b) k = w k := fun k h => gfu_ne h
  have hwn : gfu w n (w a + w b) n = w a + w b := gfu_eq
  have pn := t.hi n (Nat.le_refl n) hn
  have hpn : gfu (gfu p a (n : Int)) b (n : Int) n = -1 := by rw [hp n (by omega) (by omega)]; exact pn.1
  have hlb : w a ≤ w b := la b hb wb pb
  refine ⟨?_, ?_, ?_, ?_, ?_, ?_, ?_, ?_, ?_⟩
  · intro k
    by_cases e : k = n
    · rw [e, hwn]; omega
    · rw [hw k e]; exact t.nn k
  · intro k hk
    by_cases e1 : k = a
    · right; exact ⟨n, by rw [e1, hpa], by omega, by omega⟩
    · by_cases e2 : k = b
      · right; exact ⟨n, by rw [e2, hpb], by omega, by omega⟩
      · rw [hp k e1 e2]
        by_cases e3 : k = n
        · left; rw [e3]; exact pn.1
        · rcases t.up k (by omega) with h | ⟨m, h, h1, h2⟩
          · exact Or.inl h
          · exact Or.inr ⟨m, h, h1, by omega⟩
  · intro k h1 h2
    rw [hp k (by omega) (by omega), hw k (by omega)]
    exact t.hi k (by omega) h2
  · intro x c hx hc h1 h2 h3
    have ca : c ≠ a := fun e => by rw [e, hpa] at h2; omega
    have cb : c ≠ b := fun e => by rw [e, hpb] at h2; omega
    rw [hp c ca cb] at h2
    have xn : x ≠ n := fun e => h1 (by rw [e]; exact hpn)
    rw [hw x xn]
    by_cases cn : c = n
    · rw [cn, hwn]
      by_cases xa : x = a
      · rw [xa]; omega
      · by_cases xb : x = b
        · rw [xb]; omega
        · rw [hp x xa xb] at h1
          have := t.lv x a (by omega) ha h1 pa wa
          omega
    · rw [hw c cn] at h3 ⊢
      have hcn : c < n := by omega
      by_cases xa : x = a
      · rw [xa]; exact la c hcn h3 h2
      · by_cases xb : x = b
        · rw [xb]; exact lb c hcn h3 h2 ca
        · rw [hp x xa xb] at h1
          exact t.lv x c (by omega) hcn h1 h2 h3
  · intro x m hx h1
    have xn : x ≠ n := fun e => by rw [e, hpn] at h1; omega
    rw [hw x xn]
    by_cases xa : x = a
    · rw [xa, hpa] at h1
      obtain rfl : m = n := by omega
      rw [hwn, xa]; omega
    · by_cases xb : x = b
      · rw [xb, hpb] at h1
        obtain rfl : m = n := by omega
        rw [hwn, xb]; omega
      · rw [hp x xa xb] at h1
        have h2 := t.f1 x m (by omega) h1
        rcases t.up x (by omega) with h | ⟨m2, h, h3, h4⟩
        · rw [h] at h1; omega
        · rw [h] at h1
          rw [hw m (by omega)]
          exact h2
  · intro x m r hx hm h1 h2
    have xn : x ≠ n := fun e => by rw [e, hpn] at h1; omega
    have mn : m ≠ n := fun e => by rw [e, hpn] at h2; omega
    have xa : x ≠ a := fun e => by rw [e, hpa] at h1; omega
    have xb : x ≠ b := fun e => by rw [e, hpb] at h1; omega
    rw [hw x xn]
    rw [hp x xa xb] at h1
    by_cases ma : m = a
    · rw [ma, hpa] at h2
      obtain rfl : r = n := by omega
      rw [hwn]
      have g1 := t.lv x a (by omega) ha (by rw [h1]; omega) pa wa
      omega
    · by_cases mb : m = b
      · rw [mb, hpb] at h2
        obtain rfl : r = n := by omega
        rw [hwn]
        have g1 := t.lv x a (by omega) ha (by rw [h1]; omega) pa wa
        omega
      · rw [hp m ma mb] at h2
        have g1 := t.f2 x m r (by omega) (by omega) h1 h2
        rcases t.up m (by omega) with h | ⟨m2, h, h3, h4⟩
        · rw [h] at h2; omega
        · rw [h] at h2
          rw [hw r (by omega)]
          exact g1
  · have e1 : gsf (glw (gfu w n (w a + w b)) (gfu (gfu p a (n : Int)) b (n : Int))) (n + 1) = gsf (gfu (gfu (gfu (glw w p) a 0) b 0) n (w a + w b)) (n + 1) := gsf_cg (fun j hj => by
      by_cases jn : j = n
      · rw [jn, gfu_eq]
        show (if _ = -1 then _ else _) = _
        rw [if_pos hpn, hwn]
      · rw [gfu_ne jn]
        by_cases jb : j = b
        · rw [jb, gfu_eq]
          show (if _ = -1 then _ else _) = _
          rw [if_neg (by rw [hpb]; omega)]
        · rw [gfu_ne jb]
          by_cases ja : j = a
          · rw [ja, gfu_eq]
            show (if _ = -1 then _ else _) = _
            rw [if_neg (by rw [hpa]; omega)]
          · rw [gfu_ne ja]
            show (if _ = -1 then _ else _) = (if _ = -1 then _ else _)
            rw [hp j ja jb, hw j jn])
    have e2 : gsf (gfu (gfu (gfu (glw w p) a 0) b 0) n (w a + w b)) (n + 1) = gsf (gfu (gfu (glw w p) a 0) b 0) n + (w a + w b) := by
      show gsf _ n + gfu _ n _ n = _
      rw [gfu_eq, gsf_cg (g := gfu (gfu (glw w p) a 0) b 0) (fun j hj => gfu_ne (by omega))]
    have e3 : gsf (gfu (gfu (glw w p) a 0) b 0) n = gsf (glw w p) n - w a - w b := by
      rw [gsf_up hb, gsf_up ha, gfu_ne (Ne.symm hab)]
      have x1 : glw w p a = w a := if_pos pa
      have x2 : glw w p b = w b := if_pos pb
      omega
    have := t.ls
    omega
  · have e1 : gsf (glc (gfu w n (w a + w b)) (gfu (gfu p a (n : Int)) b (n : Int))) (n + 1) = gsf (gfu (gfu (gfu (glc w p) a 0) b 0) n 1) (n + 1) := gsf_cg (fun j hj => by
      by_cases jn : j = n
      · rw [jn, gfu_eq]
        show (if _ = -1 ∧ _ then _ else _) = _
        rw [if_pos ⟨hpn, by rw [hwn]; omega⟩]
      · rw [gfu_ne jn]
        by_cases jb : j = b
        · rw [jb, gfu_eq]
          show (if _ = -1 ∧ _ then _ else _) = _
          rw [if_neg (fun q => by have := q.1; rw [hpb] at this; omega)]
        · rw [gfu_ne jb]
          by_cases ja : j = a
          · rw [ja, gfu_eq]
            show (if _ = -1 ∧ _ then _ else _) = _
            rw [if_neg (fun q => by have := q.1; rw [hpa] at this; omega)]
          · rw [gfu_ne ja]
            show (if _ = -1 ∧ _ then _ else _) = (if _ = -1 ∧ _ then _ else _)
            rw [hp j ja jb, hw j jn])
    have e2 : gsf (gfu (gfu (gfu (glc w p) a 0) b 0) n 1) (n + 1) = gsf (gfu (gfu (glc w p) a 0) b 0) n + 1 := by
      show gsf _ n + gfu _ n _ n = _
      rw [gfu_eq, gsf_cg (g := gfu (gfu (glc w p) a 0) b 0) (fun j hj => gfu_ne (by omega))]
    have e3 : gsf (gfu (gfu (glc w p) a 0) b 0) n = gsf (glc w p) n - 1 - 1 := by
      rw [gsf_up hb, gsf_up ha, gfu_ne (Ne.symm hab)]
      have x1 : glc w p a = 1 := if_pos ⟨pa, wa⟩
      have x2 : glc w p b = 1 := if_pos ⟨pb, wb⟩
      omega
    have := t.cn
    omega
  · have h1 : glc (gfu w n (w a + w b)) (gfu (gfu p a (n : Int)) b (n : Int)) n = 1 := if_pos ⟨hpn, by rw [hwn]; omega⟩
    have h2 := gsf_le (f := glc (gfu w n (w a + w b)) (gfu (gfu p a (n : Int)) b (n : Int))) (fun j => by unfold glc; split <;> omega) (i := n) (n := n + 1) (by omega)
    omega
/-- how deep a symbol is -/
def gDp (w p : Nat → Int) (s k : Nat) (bits : Nat) : Prop := 0 < w s → (2 : Int) ^ (bits / 2) ≤ w k ∧ ∀ m : Nat, p k = (m : Int) → (2 : Int) ^ ((bits + 1) / 2) ≤ w m
theorem gDp.zero {w p : Nat → Int} {n s : Nat} (t : gTr w p n) (hs : s < n) : gDp w p s s 0 := fun h => by
  refine ⟨by show (1 : Int) ≤ _; omega, fun m hm => ?_⟩
  have := t.f1 s m hs hm
  show (1 : Int) ≤ _
  omega
theorem gDp.step {w p : Nat → Int} {n s k m bits : Nat} (t : gTr w p n) (hk : k < n) (hm : p k = (m : Int)) (hmn : m < n) (g : gDp w p s k bits) : gDp w p s m (bits + 1) := fun h => by
  obtain ⟨g1, g2⟩ := g h
  refine ⟨g2 m hm, fun r hr => ?_⟩
  have h1 := t.f2 k m r hk hmn hm hr
  have e : (bits + 1 + 1) / 2 = bits / 2 + 1 := by omega
  rw [e, Int.pow_succ]
  omega
theorem gDp.le {w p : Nat → Int} {s k bits : Nat} (g : gDp w p s k bits) (h : 0 < w s) (hk : w k ≤ 2000) : bits ≤ 21 := by
  by_cases hb : bits ≤ 21
  · exact hb
  · have h1 := (g h).1
    have h2 : (2 : Nat) ^ 11 ≤ 2 ^ (bits / 2) := Nat.pow_le_pow_right (by decide) (by omega)
    have h3 : ((2 ^ 11 : Nat) : Int) ≤ ((2 ^ (bits / 2) : Nat) : Int) := Int.ofNat_le.mpr h2
    have h4 : ((2 ^ (bits / 2) : Nat) : Int) = (2 : Int) ^ (bits / 2) := by simp
    have h5 : ((2 ^ 11 : Nat) : Int) = 2048 := by decide
    omega
theorem gTr.two {w p : Nat → Int} {n a b : Nat} (t : gTr w p n) (ha : a < n) (hb : b < n) (hab : a ≠ b) (pa : p a = -1) (pb : p b = -1) : w a + w b ≤ 1999 := by
  have e3 : gsf (gfu (gfu (glw w p) a 0) b 0) n = gsf (glw w p) n - w a - w b := by
    rw [gsf_up hb, gsf_up ha, gfu_ne (Ne.symm hab)]
    have x1 : glw w p a = w a := if_pos pa
    have x2 : glw w p b = w b := if_pos pb
    omega
  have h0 := gsf_nn (f := gfu (gfu (glw w p) a 0) b 0) (fun j => by
    unfold gfu
    split
    · exact Int.le_refl 0
    · split
      · exact Int.le_refl 0
      · unfold glw
        split
        · exact t.nn j
        · exact Int.le_refl 0) n
  have := t.ls
  omega
theorem gTr.sz {w p : Nat → Int} {n : Nat} (t : gTr w p n) : n ≤ 513 := by
  have h1 := t.cn
  have h2 := t.c1
  omega
/-- the first tree: symbols alone -/
def gwz (f : Nat → Int) (off : Nat) : Nat → Int := fun j => if j < 257 then f (off + j) else 0
theorem gsf_sh {f : Nat → Int} {off : Nat} : ∀ n, gsf (fun j => f (off + j)) n = gsf f (off + n) - gsf f off
  | 0 => by show (0 : Int) = gsf f off - gsf f off; omega
  | n + 1 => by
    show gsf (fun j => f (off + j)) n + f (off + n) = gsf f (off + n) + f (off + n) - gsf f off
    rw [gsf_sh n]
    omega
theorem gTr.init {f : Nat → Int} {off : Nat} {so : Int} (hf : ∀ j, 0 ≤ f j) (hs : gsf f 514 = so) (h1 : so ≤ 1999) (ho : off + 257 ≤ 514) (h2 : f (off + 256) = 1) : gTr (gwz f off) (fun _ => -1) 257 := by
  have e1 : ∀ j, j < 257 → gwz f off j = f (off + j) := fun j hj => if_pos hj
  have nn : ∀ k, 0 ≤ gwz f off k := fun k => by
    unfold gwz
    split
    · exact hf _
    · exact Int.le_refl 0
  refine ⟨nn, fun k _ => Or.inl rfl, fun k hk _ => ⟨rfl, if_neg (by omega)⟩, fun x c _ _ h => absurd rfl h, fun x m _ h => ?_, fun x m r _ _ h => ?_, ?_, ?_, ?_⟩
  · exfalso
    have h' : (-1 : Int) = (m : Int) := h
    omega
  · exfalso
    have h' : (-1 : Int) = (m : Int) := h
    omega
  · have e2 : gsf (glw (gwz f off) (fun _ => -1)) 257 = gsf (fun j => f (off + j)) 257 := gsf_cg (fun j hj => by
      show (if (-1 : Int) = -1 then _ else _) = _
      rw [if_pos rfl, e1 j hj])
    rw [e2, gsf_sh]
    have g1 := gsf_mono hf (k := off + 257) (n := 514) ho
    have g2 := gsf_nn hf off
    omega
  · have e2 : ∀ n, gsf (glc (gwz f off) (fun _ => -1)) n ≤ (n : Int) := by
      intro n
      induction n with
      | zero => exact Int.le_refl _
      | succ n ih =>
        have : glc (gwz f off) (fun _ => -1) n ≤ 1 := by unfold glc; split <;> omega
        show gsf _ n + glc _ _ n ≤ ((n + 1 : Nat) : Int)
        omega
    have := e2 257
    omega
  · have h3 : glc (gwz f off) (fun _ => -1) 256 = 1 := if_pos ⟨rfl, by rw [e1 256 (by omega), h2]; decide⟩
    have h4 := gsf_le (f := glc (gwz f off) (fun _ => -1)) (fun j => by unfold glc; split <;> omega) (i := 256) (n := 257) (by omega)
    omega
/-- how many codes of at most these bits are told -/
def gF (f : Nat → Int) (off bits s : Int) : Int := gsf (fun j => if f (off.toNat + j) < bits ∨ (f (off.toNat + j) = bits ∧ (j : Int) < s) then 1 else 0) 256
theorem gF_le {f : Nat → Int} {off bits s : Int} : gF f off bits s ≤ 256 := by
  have e2 : ∀ n, gsf (fun j => if f (off.toNat + j) < bits ∨ (f (off.toNat + j) = bits ∧ (j : Int) < s) then (1 : Int) else 0) n ≤ (n : Int) := by
    intro n
    induction n with
    | zero => exact Int.le_refl _
    | succ n ih =>
      have : (if f (off.toNat + n) < bits ∨ (f (off.toNat + n) = bits ∧ (n : Int) < s) then (1 : Int) else 0) ≤ 1 := by split <;> omega
      show gsf _ n + (if f (off.toNat + n) < bits ∨ (f (off.toNat + n) = bits ∧ (n : Int) < s) then (1 : Int) else 0) ≤ ((n + 1 : Nat) : Int)
      omega
  exact e2 256
theorem gF_nn {f : Nat → Int} {off bits s : Int} : 0 ≤ gF f off bits s := gsf_nn (fun j => by split <;> omega) 256
theorem gF_wrap {f : Nat → Int} {off bits : Int} : gF f off bits 256 = gF f off (bits + 1) 0 := gsf_cg (fun j hj => by
  by_cases h : f (off.toNat + j) < bits ∨ (f (off.toNat + j) = bits ∧ (j : Int) < 256)
  · rw [if_pos h, if_pos (by omega)]
  · rw [if_neg h, if_neg (by omega)])
theorem gF_st {f : Nat → Int} {off bits s z : Int} (ho : 0 ≤ off) (hs : 0 ≤ s) (h2 : s < 256) (e : f (off + s).toNat = z) : gF f off bits (s + 1) = gF f off bits s + (if z = bits then 1 else 0) := by
  have e1 : (off + s).toNat = off.toNat + s.toNat := by omega
  rw [e1] at e
  unfold gF
  have h3 : ∀ j, j < 256 → (if f (off.toNat + j) < bits ∨ (f (off.toNat + j) = bits ∧ (j : Int) < s + 1) then (1 : Int) else 0) = gfu (fun j => if f (off.toNat + j) < bits ∨ (f (off.toNat + j) = bits ∧ (j : Int) < s) then (1 : Int) else 0) s.toNat (if z < bits ∨ z = bits then 1 else 0) j := fun j hj => by
    by_cases hjs : j = s.toNat
    · subst hjs
      rw [gfu_eq, e]
      by_cases h : z < bits ∨ z = bits
      · rw [if_pos h, if_pos (by omega)]
      · rw [if_neg h, if_neg (by omega)]
    · rw [gfu_ne hjs]
      by_cases h : f (off.toNat + j) < bits ∨ (f (off.toNat + j) = bits ∧ (j : Int) < s)
      · rw [if_pos h, if_pos (by omega)]
      · rw [if_neg h, if_neg (by omega)]
  rw [gsf_cg h3, gsf_up (by omega), e]
  by_cases h : z = bits
  · rw [if_pos h, if_pos (Or.inr h), if_neg (by omega)]
    omega
  · rw [if_neg h]
    by_cases h5 : z < bits
    · rw [if_pos (Or.inl h5), if_pos (Or.inl h5)]
      omega
    · rw [if_neg (by omega), if_neg (by omega)]
      omega
/-! ===== scans that are told ===== -/
def gcr (c : Int) : Int := if c < 0 then 4 else c
def gTl (f t : Nat → Int) (k : Int) : Int := gsf (fun j => t j - f j + 1) k.toNat
theorem gTl_st {f t : Nat → Int} {k a b : Int} (h0 : 0 ≤ k) (ea : f k.toNat = a) (eb : t k.toNat = b) : gTl f t (k + 1) = gTl f t k + (b - a + 1) := by
  unfold gTl
  have e : (k + 1).toNat = k.toNat + 1 := by omega
  rw [e]
  show gsf _ k.toNat + (t k.toNat - f k.toNat + 1) = _
  rw [ea, eb]
theorem gsf_mono2 {f : Nat → Int} : ∀ {k n : Nat}, (∀ j, j < n → 0 ≤ f j) → k ≤ n → gsf f k ≤ gsf f n
  | k, 0, _, h => by
    obtain rfl : k = 0 := by omega
    exact Int.le_refl _
  | k, n + 1, hf, h => by
    by_cases e : k = n + 1
    · rw [e]; exact Int.le_refl _
    · have h1 := gsf_mono2 (k := k) (n := n) (fun j hj => hf j (by omega)) (by omega)
      have h2 := hf n (by omega)
      show gsf f k ≤ gsf f n + f n
      omega
theorem gTl_le {f t : Nat → Int} {k n : Int} (hf : ∀ j, j < n.toNat → f j ≤ t j) (h : k ≤ n) : gTl f t k ≤ gTl f t n := gsf_mono2 (fun j hj => by have := hf j hj; omega) (by omega)
/-- coefficients a .. k - 1 are told once more -/
def gCm (c : Nat → Int) (c2 : Nat → Int) (a k v : Int) : Prop := gsf (fun j => gcr (c2 j)) 64 + (k - a) ≤ gsf (fun j => gcr (c j)) 64 ∧ (∀ j, k.toNat ≤ j → c2 j = c j) ∧ a ≤ k ∧ (0 ≤ a → ∀ j : Nat, c2 j = if a.toNat ≤ j ∧ j < k.toNat then v else c j)
theorem gCm.zero {c : Nat → Int} {a v : Int} : gCm c c a a v := ⟨by omega, fun _ _ => rfl, Int.le_refl _, fun _ j => by
  have h9 : ¬ (a.toNat ≤ j ∧ j < a.toNat) := by omega
  rw [if_neg h9]⟩
theorem gCm.step {c c2 : Nat → Int} {a k v : Int} (g : gCm c c2 a k v) (h0 : 0 ≤ k) (h1 : k < 64) (hc : v + 1 ≤ gcr (c k.toNat)) (hv : 0 ≤ v) : gCm c (gfu c2 k.toNat v) a (k + 1) v := by
  have g3 := g.2.2.1
  refine ⟨?_, fun j hj => ?_, by omega, fun ha j => ?_⟩
  · have e : gsf (fun j => gcr (gfu c2 k.toNat v j)) 64 = gsf (gfu (fun j => gcr (c2 j)) k.toNat v) 64 := gsf_cg (fun j _ => by
      by_cases hj : j = k.toNat
      · rw [hj, gfu_eq, gfu_eq]
        unfold gcr
        rw [if_neg (by omega)]
      · rw [gfu_ne hj, gfu_ne hj])
    rw [e, gsf_up (by omega)]
    have e2 := g.2.1 k.toNat (Nat.le_refl _)
    have := g.1
    rw [e2]
    omega
  · rw [gfu_ne (by omega)]
    exact g.2.1 j (by omega)
  · by_cases hj : j = k.toNat
    · have h9 : a.toNat ≤ k.toNat ∧ k.toNat < (k + 1).toNat := by omega
      rw [hj, gfu_eq, if_pos h9]
    · rw [gfu_ne hj, g.2.2.2 ha j]
      by_cases h8 : a.toNat ≤ j ∧ j < k.toNat
      · have h9 : a.toNat ≤ j ∧ j < (k + 1).toNat := by omega
        rw [if_pos h8, if_pos h9]
      · have h9 : ¬ (a.toNat ≤ j ∧ j < (k + 1).toNat) := by omega
        rw [if_neg h8, if_neg h9]
theorem gcr_nn {c : Int} : 0 ≤ gcr c := by unfold gcr; split <;> omega
/-- how often symbols come, in all -/
def gOf (ty : Nat → Nat) (so : Int) (h : gH) : Prop := ∃ f : Nat → Int, gRow ty 36 f h ∧ (∀ j, 0 ≤ f j) ∧ gsf f 514 = so
theorem gOf.fr {ty : Nat → Nat} {so : Int} {h h' : gH} {l : List Nat} (g : gFr rT ty l h h') (hl : ¬ 36999 ∈ l) (p : gOf ty so h) : gOf ty so h' := by
  obtain ⟨f, a, b, c⟩ := p
  exact ⟨f, a.fr g hl, b, c⟩
theorem gOf.pt {ty : Nat → Nat} {so : Int} {b j q2 : Nat} {h h' : gH} (g : ∀ x n, ¬ (x = b ∧ n = j) → h'.2.2.2.2 x n = h.2.2.2.2 x n) (ht : ty b = q2) (hq : q2 ≠ 36) (p : gOf ty so h) : gOf ty so h' := by
  obtain ⟨f, a, b, c⟩ := p
  exact ⟨f, a.pt g ht hq, b, c⟩
theorem gOf.put {ty : Nat → Nat} {so : Int} {h h' : gH} {c : Nat} {i z zo : Int} (uq : gUq ty) (ht : ty c = 36) (g : ∀ x n, ¬ (x = c ∧ n = i.toNat) → h'.2.2.2.2 x n = h.2.2.2.2 x n) (e : h.2.2.2.2 c i.toNat = .int (zi zo)) (e' : h'.2.2.2.2 c i.toNat = .int (zi z)) (h0 : 0 ≤ zo ∧ zo ≤ 2147483647) (h1 : 0 ≤ z) (h2 : z ≤ 2147483647) (hi : i.toNat < 514) (p : gOf ty so h) : gOf ty (so - zo + z) h' := by
  obtain ⟨f, a, b, c⟩ := p
  have e0 := a.at (i := i) ht e (by omega) (by omega) hi
  refine ⟨gfu f i.toNat z, a.put uq ht (by decide) g e' (by omega) h2, fun j => ?_, ?_⟩
  · unfold gfu
    split
    · exact h1
    · exact b j
  · rw [gsf_up hi, c, e0]
theorem gOf.le {ty : Nat → Nat} {so : Int} {h : gH} {c : Nat} {i z : Int} (ht : ty c = 36) (e : h.2.2.2.2 c i.toNat = .int (zi z)) (h1 : -2147483648 ≤ z) (h2 : z ≤ 2147483647) (hi : i.toNat < 514) (p : gOf ty so h) : z ≤ so := by
  obtain ⟨f, a, b, c⟩ := p
  have e0 := a.at (i := i) ht e h1 h2 hi
  have := gsf_le b hi
  omega
theorem gOf.nn {ty : Nat → Nat} {so : Int} {h : gH} (p : gOf ty so h) : 0 ≤ so := by
  obtain ⟨f, a, b, c⟩ := p
  rw [← c]
  exact gsf_nn b 514

/-! ===== writing: what coefficients become, trees, scans (by program) ===== -/
def gSh (ty : Nat → Nat) (p b z : Int) (h : gH) : Prop := ∃ (c : Nat) (v : Int), ty c = 33 ∧ h.2.2.2.2 c p.toNat = .int (zi v) ∧ -2147483648 ≤ v ∧ v ≤ 2147483647 ∧ z = v.tdiv (2 ^ b.toNat)
theorem gSh.fr {ty : Nat → Nat} {p b z : Int} {h h' : gH} {l : List Nat} (g : gFr rT ty l h h') (hl : ¬ 33999 ∈ l) (s : gSh ty p b z h) : gSh ty p b z h' := by
  obtain ⟨c, v, x1, x2, x3⟩ := s
  exact ⟨c, v, x1, (g.2.2.2.2 c _ (by rw [x1]; exact hl)).trans x2, x3⟩
theorem gSh.pt {ty : Nat → Nat} {p b z : Int} {c9 j q2 : Nat} {h h' : gH} (g : ∀ x n, ¬ (x = c9 ∧ n = j) → h'.2.2.2.2 x n = h.2.2.2.2 x n) (ht : ty c9 = q2) (hq : q2 ≠ 33) (s : gSh ty p b z h) : gSh ty p b z h' := by
  obtain ⟨c, v, x1, x2, x3⟩ := s
  exact ⟨c, v, x1, (g c _ (fun w => hq (by rw [← ht, ← x1, w.1]))).trans x2, x3⟩
def gLn (ty : Nat → Nat) (p a b k ln : Int) (h : gH) : Prop := ∀ j : Int, a ≤ j → j < k → ∀ z, gSh ty (p + j) b z h → z = 1 ∨ z = -1 → j ≤ ln
theorem gSh.un {ty : Nat → Nat} {p b z y : Int} {h : gH} (uq : gUq ty) (s : gSh ty p b z h) (t : gSh ty p b y h) : z = y := by
  obtain ⟨c, v, x1, x2, x3, x4, x5⟩ := s
  obtain ⟨d, u, y1, y2, y3, y4, y5⟩ := t
  have e : c = d := uq c d (x1.trans y1.symm) (by rw [x1]; decide) (by rw [x1]; decide)
  rw [e, y2] at x2
  have := (zi_inj (a := u) (b := v) (by omega) (by omega)).mp (Value.int.inj x2)
  rw [x5, y5, this]
theorem gLn.fr {ty : Nat → Nat} {p a b k ln : Int} {h h' : gH} {l : List Nat} (g : gFr rT ty l h h') (hl : ¬ 33999 ∈ l) (s : gLn ty p a b k ln h) : gLn ty p a b k ln h' := by
  intro j h1 h2 z hz
  obtain ⟨c, v, x1, x2, x3⟩ := hz
  exact s j h1 h2 z ⟨c, v, x1, (g.2.2.2.2 c _ (by rw [x1]; exact hl)).symm.trans x2, x3⟩
theorem gLn.pt {ty : Nat → Nat} {p a b k ln : Int} {c9 j9 q2 : Nat} {h h' : gH} (g : ∀ x n, ¬ (x = c9 ∧ n = j9) → h'.2.2.2.2 x n = h.2.2.2.2 x n) (ht : ty c9 = q2) (hq : q2 ≠ 33) (s : gLn ty p a b k ln h) : gLn ty p a b k ln h' := by
  intro j h1 h2 z hz
  obtain ⟨c, v, x1, x2, x3⟩ := hz
  exact s j h1 h2 z ⟨c, v, x1, (g c _ (fun w => hq (by rw [← ht, ← x1, w.1]))).symm.trans x2, x3⟩
theorem gLn.zero {ty : Nat → Nat} {p a b ln : Int} {h : gH} : gLn ty p a b a ln h := fun j h1 h2 => absurd h2 (by omega)
theorem gLn.step {ty : Nat → Nat} {p a b k ln ln2 z : Int} {h : gH} (uq : gUq ty) (s : gLn ty p a b k ln h) (t : gSh ty (p + k) b z h) (h1 : ln ≤ ln2) (h2 : z = 1 ∨ z = -1 → k ≤ ln2) : gLn ty p a b (k + 1) ln2 h := by
  intro j g1 g2 y hy hz
  by_cases e : j = k
  · subst e
    have := gSh.un uq t hy
    subst this
    exact h2 hz
  · have := s j g1 (by omega) y hy hz
    omega
def gO1 (ty : Nat → Nat) (wh : Int) (h : gH) : Prop := gEl ty 36 (257 * wh + 256) 1 1 h
theorem gO1.fr {ty : Nat → Nat} {wh : Int} {h h' : gH} {l : List Nat} (g : gFr rT ty l h h') (hl : ¬ 36999 ∈ l) (s : gO1 ty wh h) : gO1 ty wh h' := gEl.fr g hl (fun _ => rfl) s
theorem gO1.pt {ty : Nat → Nat} {wh : Int} {c9 j9 q2 : Nat} {h h' : gH} (g : ∀ x n, ¬ (x = c9 ∧ n = j9) → h'.2.2.2.2 x n = h.2.2.2.2 x n) (ht : ty c9 = q2) (hq : q2 ≠ 36) (s : gO1 ty wh h) : gO1 ty wh h' := gEl.pt g ht hq s
/-- a row's numbers, by its kind -/
theorem gRow.rng {ty : Nat → Nat} {h : gH} {c q : Nat} {r : gRg} {lo hi : Int} {f : Nat → Int} (hJ : gJ rT 1027 ty h) (ht : ty c = q) (hT : rT q = some r) (hr : r.1 = .inl 0) (hs : ∀ j, r.2.2.2 j = (0, lo, hi)) (hb : -2147483648 ≤ lo ∧ hi ≤ 2147483647) (hl : 514 ≤ r.2.1) (p : gRow ty q f h) : ∀ i, i < 514 → lo ≤ f i ∧ f i ≤ hi := by
  intro i hi9
  obtain ⟨-, -, -, x4, -, x6⟩ := hJ c r (by rw [ht]; exact hT)
  have x7 := x6 i (by unfold gIn; rw [hr]; show i < _; omega)
  rw [hs] at x7
  obtain ⟨z, e, a, b⟩ := x7
  have a' : lo ≤ z := a
  have b' : z ≤ hi := b
  have e2 := p.2 c ht i hi9
  rw [e] at e2
  have e3 : (zi z).toInt = f i := e2
  rw [zi_in (by omega)] at e3
  omega
theorem gEl.row {ty : Nat → Nat} {h : gH} {c q : Nat} {r : gRg} {lo hi i a b : Int} {f : Nat → Int} (hJ : gJ rT 1027 ty h) (ht : ty c = q) (hT : rT q = some r) (hr : r.1 = .inl 0) (hs : ∀ j, r.2.2.2 j = (0, lo, hi)) (hb : -2147483648 ≤ lo ∧ hi ≤ 2147483647) (hl : 514 ≤ r.2.1) (p : gRow ty q f h) (h0 : 0 ≤ i) (h1 : i < 514) (e : gEl ty q i a b h) : a ≤ f i.toNat ∧ f i.toNat ≤ b := by
  obtain ⟨-, -, -, x4, -, x6⟩ := hJ c r (by rw [ht]; exact hT)
  have x7 := x6 i.toNat (by unfold gIn; rw [hr]; show i.toNat < _; omega)
  rw [hs] at x7
  obtain ⟨z, e1, u, v⟩ := x7
  have u' : lo ≤ z := u
  have v' : z ≤ hi := v
  have e2 := p.2 c ht i.toNat (by omega)
  rw [e1] at e2
  have e3 : (zi z).toInt = f i.toNat := e2
  rw [zi_in (by omega)] at e3
  have := e c z ht e1 (by omega) (by omega)
  omega
def gTi (ty : Nat → Nat) (f : Nat → Int) (off s : Int) (h : gH) : Prop := ∃ w p : Nat → Int, gRow ty 39 w h ∧ gRow ty 41 p h ∧ ∀ j, j < s.toNat → p j = -1 ∧ w j = gwz f off.toNat j
theorem gTi.fr {ty : Nat → Nat} {f : Nat → Int} {off s : Int} {h h' : gH} {l : List Nat} (g : gFr rT ty l h h') (hl : ∀ x ∈ ([39999, 41999] : List Nat), ¬ x ∈ l) (t : gTi ty f off s h) : gTi ty f off s h' := by
  obtain ⟨w, p, a, b, c⟩ := t
  exact ⟨w, p, a.fr g (hl _ (by decide)), b.fr g (hl _ (by decide)), c⟩
theorem gTi.pt {ty : Nat → Nat} {f : Nat → Int} {off s : Int} {c9 j9 q2 : Nat} {h h' : gH} (g : ∀ x n, ¬ (x = c9 ∧ n = j9) → h'.2.2.2.2 x n = h.2.2.2.2 x n) (ht : ty c9 = q2) (hq : ∀ x ∈ ([39, 41] : List Nat), q2 ≠ x) (t : gTi ty f off s h) : gTi ty f off s h' := by
  obtain ⟨w, p, a, b, c⟩ := t
  exact ⟨w, p, a.pt g ht (hq _ (by decide)), b.pt g ht (hq _ (by decide)), c⟩
theorem gTi.step {ty : Nat → Nat} {f w p : Nat → Int} {off s v : Int} {h : gH} (h0 : 0 ≤ s) (a : gRow ty 39 (gfu w s.toNat v) h) (b : gRow ty 41 (gfu p s.toNat (-1)) h) (c : ∀ j, j < s.toNat → p j = -1 ∧ w j = gwz f off.toNat j) (e : v = gwz f off.toNat s.toNat) : gTi ty f off (s + 1) h := by
  refine ⟨_, _, a, b, fun j hj => ?_⟩
  by_cases hs : j = s.toNat
  · subst hs
    rw [gfu_eq, gfu_eq]
    exact ⟨rfl, e⟩
  · rw [gfu_ne hs, gfu_ne hs]
    exact c j (by omega)
theorem gTi.out {ty : Nat → Nat} {f : Nat → Int} {off : Int} {h : gH} (t : gTi ty f off 514 h) : gRow ty 39 (gwz f off.toNat) h ∧ gRow ty 41 (fun _ => -1) h := by
  obtain ⟨w, p, a, b, c⟩ := t
  exact ⟨⟨a.1, fun x hx i hi => (a.2 x hx i hi).trans (c i hi).2⟩, ⟨b.1, fun x hx i hi => (b.2 x hx i hi).trans (c i hi).1⟩⟩
def gTree (ty : Nat → Nat) (nd : Int) (h : gH) : Prop := ∃ w p : Nat → Int, gRow ty 39 w h ∧ gRow ty 41 p h ∧ gTr w p nd.toNat
theorem gTree.fr {ty : Nat → Nat} {nd : Int} {h h' : gH} {l : List Nat} (g : gFr rT ty l h h') (hl : ∀ x ∈ ([39999, 41999] : List Nat), ¬ x ∈ l) (t : gTree ty nd h) : gTree ty nd h' := by
  obtain ⟨w, p, a, b, c⟩ := t
  exact ⟨w, p, a.fr g (hl _ (by decide)), b.fr g (hl _ (by decide)), c⟩
theorem gTree.pt {ty : Nat → Nat} {nd : Int} {c9 j9 q2 : Nat} {h h' : gH} (g : ∀ x n, ¬ (x = c9 ∧ n = j9) → h'.2.2.2.2 x n = h.2.2.2.2 x n) (ht : ty c9 = q2) (hq : ∀ x ∈ ([39, 41] : List Nat), q2 ≠ x) (t : gTree ty nd h) : gTree ty nd h' := by
  obtain ⟨w, p, a, b, c⟩ := t
  exact ⟨w, p, a.pt g ht (hq _ (by decide)), b.pt g ht (hq _ (by decide)), c⟩
theorem gTr.join {w p : Nat → Int} {nd a b za zb : Int} (t : gTr w p nd.toNat) (h0 : 257 ≤ nd) (la : gLst w p nd a) (ha : a ≠ -1) (lb : gLst w (gfu p a.toNat nd) nd b) (hb : b ≠ -1) (ea : w a.toNat = za) (eb : w b.toNat = zb) : a ≠ b ∧ za + zb ≤ 1999 ∧ gTr (gfu w nd.toNat (za + zb)) (gfu (gfu p a.toNat nd) b.toNat nd) (nd + 1).toNat := by
  obtain ⟨a0, a1, a2, a3, a4⟩ := la.2 ha
  obtain ⟨b0, b1, b2, b3, b4⟩ := lb.2 hb
  have hs := t.sz
  have hne : a.toNat ≠ b.toNat := fun e => by
    rw [← e, gfu_eq] at b3
    omega
  have b3' : p b.toNat = -1 := by rwa [gfu_ne (Ne.symm hne)] at b3
  have e1 : ((nd.toNat : Nat) : Int) = nd := by omega
  have e2 : (nd + 1).toNat = nd.toNat + 1 := by omega
  have hst := t.step (a := a.toNat) (b := b.toNat) (by omega) (by omega) (by omega) hne a3 b3' a2 b2 (fun k hk h1 h2 => a4 k (by omega) h1 h2) (fun k hk h1 h2 h3 => b4 k (by omega) h1 (by rw [gfu_ne h3]; exact h2))
  rw [e1, ea, eb, ← e2] at hst
  have htw := t.two (a := a.toNat) (b := b.toNat) (by omega) (by omega) hne a3 b3'
  refine ⟨fun e => hne (by rw [e]), by omega, hst⟩
theorem gfu_back {p : Nat → Int} {a : Nat} {v : Int} (h : p a = -1) : gfu (gfu p a v) a (-1) = p := funext fun j => by
  unfold gfu
  split
  · rename_i e
    rw [e, h]
  · rfl
/-! ===== scans that are told, codes that are counted (by program) ===== -/
def gTs (ty : Nat → Nat) (n : Int) (h : gH) : Prop := ∃ f t c : Nat → Int, gRow ty 27 f h ∧ gRow ty 28 t h ∧ gRow ty 31 c h ∧ (∀ j, j < n.toNat → f j ≤ t j) ∧ gTl f t n + gsf (fun j => gcr (c j)) 64 ≤ 256
theorem gTs.fr {ty : Nat → Nat} {n : Int} {h h' : gH} {l : List Nat} (g : gFr rT ty l h h') (hl : ∀ x ∈ ([27999, 28999, 31999] : List Nat), ¬ x ∈ l) (s : gTs ty n h) : gTs ty n h' := by
  obtain ⟨f, t, c, x1, x2, x3, x4⟩ := s
  exact ⟨f, t, c, x1.fr g (hl _ (by decide)), x2.fr g (hl _ (by decide)), x3.fr g (hl _ (by decide)), x4⟩
theorem gTs.pt {ty : Nat → Nat} {n : Int} {c9 j9 q2 : Nat} {h h' : gH} (g : ∀ x n, ¬ (x = c9 ∧ n = j9) → h'.2.2.2.2 x n = h.2.2.2.2 x n) (ht : ty c9 = q2) (hq : ∀ x ∈ ([27, 28, 31] : List Nat), q2 ≠ x) (s : gTs ty n h) : gTs ty n h' := by
  obtain ⟨f, t, c, x1, x2, x3, x4⟩ := s
  exact ⟨f, t, c, x1.pt g ht (hq _ (by decide)), x2.pt g ht (hq _ (by decide)), x3.pt g ht (hq _ (by decide)), x4⟩
def gCq (ty : Nat → Nat) (cf : Nat → Int) (a k v : Int) (h : gH) : Prop := ∃ c2 : Nat → Int, gRow ty 31 c2 h ∧ gCm cf c2 a k v
theorem gCq.fr {ty : Nat → Nat} {cf : Nat → Int} {a k v : Int} {h h' : gH} {l : List Nat} (g : gFr rT ty l h h') (hl : ∀ x ∈ ([31999] : List Nat), ¬ x ∈ l) (s : gCq ty cf a k v h) : gCq ty cf a k v h' := by
  obtain ⟨c, x1, x2⟩ := s
  exact ⟨c, x1.fr g (hl _ (by decide)), x2⟩
theorem gCq.pt {ty : Nat → Nat} {cf : Nat → Int} {a k v : Int} {c9 j9 q2 : Nat} {h h' : gH} (g : ∀ x n, ¬ (x = c9 ∧ n = j9) → h'.2.2.2.2 x n = h.2.2.2.2 x n) (ht : ty c9 = q2) (hq : ∀ x ∈ ([31] : List Nat), q2 ≠ x) (s : gCq ty cf a k v h) : gCq ty cf a k v h' := by
  obtain ⟨c, x1, x2⟩ := s
  exact ⟨c, x1.pt g ht (hq _ (by decide)), x2⟩
theorem gTs.tell {ty : Nat → Nat} {f t c c2 : Nat → Int} {n a b k v : Int} {h : gH} (h0 : 0 ≤ n) (x1 : gRow ty 27 (gfu f n.toNat a) h) (x2 : gRow ty 28 (gfu t n.toNat b) h) (x3 : gRow ty 31 c2 h) (x4 : ∀ j, j < n.toNat → f j ≤ t j) (x5 : gTl f t n + gsf (fun j => gcr (c j)) 64 ≤ 256) (x6 : gCm c c2 a k v) (hk : k = b + 1) (hab : a ≤ b) : gTs ty (n + 1) h := by
  refine ⟨_, _, _, x1, x2, x3, fun j hj => ?_, ?_⟩
  · by_cases e : j = n.toNat
    · rw [e, gfu_eq, gfu_eq]; exact hab
    · rw [gfu_ne e, gfu_ne e]; exact x4 j (by omega)
  · rw [gTl_st (a := a) (b := b) h0 gfu_eq gfu_eq]
    have e1 : gTl (gfu f n.toNat a) (gfu t n.toNat b) n = gTl f t n := gsf_cg (fun j hj => by rw [gfu_ne (by omega), gfu_ne (by omega)])
    have := x6.1
    rw [e1]
    omega
def gOz (ty : Nat → Nat) (q : Nat) (v k : Int) (h : gH) : Prop := ∃ f : Nat → Int, gRow ty q f h ∧ ∀ j, j < k.toNat → f j = v
theorem gOz.fr {ty : Nat → Nat} {q : Nat} {v k : Int} {h h' : gH} {l : List Nat} (g : gFr rT ty l h h') (hl : ¬ (1000 * q + 999) ∈ l) (s : gOz ty q v k h) : gOz ty q v k h' := by
  obtain ⟨f, x1, x2⟩ := s
  exact ⟨f, x1.fr g hl, x2⟩
theorem gOz.pt {ty : Nat → Nat} {q : Nat} {v k : Int} {c9 j9 q2 : Nat} {h h' : gH} (g : ∀ x n, ¬ (x = c9 ∧ n = j9) → h'.2.2.2.2 x n = h.2.2.2.2 x n) (ht : ty c9 = q2) (hq : q2 ≠ q) (s : gOz ty q v k h) : gOz ty q v k h' := by
  obtain ⟨f, x1, x2⟩ := s
  exact ⟨f, x1.pt g ht hq, x2⟩
theorem gOz.step {ty : Nat → Nat} {q : Nat} {f : Nat → Int} {v k : Int} {h : gH} (h0 : 0 ≤ k) (x1 : gRow ty q (gfu f k.toNat v) h) (x2 : ∀ j, j < k.toNat → f j = v) : gOz ty q v (k + 1) h := ⟨_, x1, fun j hj => by
  by_cases e : j = k.toNat
  · rw [e, gfu_eq]
  · rw [gfu_ne e]; exact x2 j (by omega)⟩
theorem gOz.out {ty : Nat → Nat} {h : gH} (s : gOz ty 36 0 514 h) : gOf ty 0 h := by
  obtain ⟨f, x1, x2⟩ := s
  refine ⟨fun _ => 0, ⟨x1.1, fun c hc i hi => (x1.2 c hc i hi).trans (x2 i hi)⟩, fun _ => Int.le_refl 0, gsf_zero 514⟩
theorem gOf.set {ty : Nat → Nat} {so : Int} {h h' : gH} {c : Nat} {i : Int} (uq : gUq ty) (ht : ty c = 36) (g : ∀ x n, ¬ (x = c ∧ n = i.toNat) → h'.2.2.2.2 x n = h.2.2.2.2 x n) (e' : h'.2.2.2.2 c i.toNat = .int (zi 1)) (hi : i.toNat < 514) (p : gOf ty so h) : ∃ s2 : Int, 0 ≤ s2 ∧ s2 ≤ so + 1 ∧ gOf ty s2 h' := by
  obtain ⟨f, a, b, c⟩ := p
  have q : gOf ty (so - f i.toNat + 1) h' := ⟨gfu f i.toNat 1, a.put uq ht (by decide) g e' (by omega) (by omega), fun j => by
    unfold gfu
    split
    · decide
    · exact b j, by rw [gsf_up hi, c]⟩
  refine ⟨_, q.nn, ?_, q⟩
  have := b i.toNat
  omega
theorem gTs.anew {ty : Nat → Nat} {f t : Nat → Int} {h : gH} (x1 : gRow ty 27 f h) (x2 : gRow ty 28 t h) (s : gOz ty 31 (-1) 64 h) : gTs ty 0 h := by
  obtain ⟨c, y1, y2⟩ := s
  refine ⟨f, t, c, x1, x2, y1, fun j hj => absurd hj (by omega), ?_⟩
  have e : gsf (fun j => gcr (c j)) 64 = gsf (fun _ => 4) 64 := gsf_cg (fun j hj => by rw [y2 j hj]; rfl)
  have e2 : gsf (fun _ => (4 : Int)) 64 = 256 := by decide
  rw [e, e2]
  show (0 : Int) + 256 ≤ 256
  decide
