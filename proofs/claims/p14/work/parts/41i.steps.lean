/-! ===== one step each ===== -/
section EES
variable {T : Type} {sy : Int → T → T} {pl : Int → Nat → T → T} {lw : Int} {cf : Nat → Int} {b j n : Nat} {t : T}
theorem eeO_0 : eeO sy pl lw cf b t 0 = (0, t) := rfl
theorem eeO_z {v : Int} (e : cf (b + j) = v) (hz : eeA v / 2 ^ lw.toNat = 0) : eeO sy pl lw cf b t (j + 1) = ((eeO sy pl lw cf b t j).1 + 1, (eeO sy pl lw cf b t j).2) := by
  show eeO1 sy pl lw (cf (b + j)) (eeO sy pl lw cf b t j) = _
  rw [e]
  exact if_pos hz
theorem eeO_y {v a r s V N : Int} {m : Nat} (e : cf (b + j) = v) (ea : a = eeA v / 2 ^ lw.toNat) (hz : ¬ a = 0) (er : r = (eeO sy pl lw cf b t j).1) (em : m = (r / 16).toNat) (es : s = 16 * (r % 16) + eeL a) (eV : V = if v < 0 then -a - 1 else a) (eN : N = eeL a) : eeO sy pl lw cf b t (j + 1) = (0, pl V N.toNat (sy s (eeZ sy (eeO sy pl lw cf b t j).2 m))) := by
  show eeO1 sy pl lw (cf (b + j)) (eeO sy pl lw cf b t j) = _
  rw [e]
  subst er em es eV eN
  rw [ea] at hz ⊢
  exact if_neg hz
theorem eeOt_p (h : 0 < (eeO sy pl lw cf b t n).1) : eeOt sy pl lw cf b n t = sy 0 (eeO sy pl lw cf b t n).2 := if_pos h
theorem eeOt_n (h : ¬ 0 < (eeO sy pl lw cf b t n).1) : eeOt sy pl lw cf b n t = (eeO sy pl lw cf b t n).2 := if_neg h
theorem eeO_b : ∀ j : Nat, 0 ≤ (eeO sy pl lw cf b t j).1 ∧ (eeO sy pl lw cf b t j).1 ≤ j
  | 0 => ⟨by show (0 : Int) ≤ 0; omega, by show (0 : Int) ≤ ((0 : Nat) : Int); omega⟩
  | j + 1 => by
    have ih := eeO_b j
    show 0 ≤ (eeO1 sy pl lw (cf (b + j)) (eeO sy pl lw cf b t j)).1 ∧ (eeO1 sy pl lw (cf (b + j)) (eeO sy pl lw cf b t j)).1 ≤ _
    unfold eeO1
    split
    · exact ⟨by show 0 ≤ _ + 1; omega, by show _ + 1 ≤ _; omega⟩
    · exact ⟨by show (0 : Int) ≤ 0; omega, by show (0 : Int) ≤ _; omega⟩
theorem eeZ_1 {m k : Nat} (e : m = k + 1) : eeZ sy t m = sy 240 (eeZ sy t k) := by rw [e]; rfl
variable {k0 ls : Int} {r : Int × Int × Nat × T}
theorem eeW_1 : ∀ m : Nat, (eeW sy pl r m).1 = r.1 - 16 * m
  | 0 => by show r.1 = _; omega
  | m + 1 => by
    have := eeW_1 m
    show (eeW sy pl r m).1 - 16 = _
    omega
theorem eeW_s {m k : Nat} (e : m = k + 1) : eeW sy pl r m = ((eeW sy pl r k).1 - 16, (eeW sy pl r k).2.1, 0, pl (eeW sy pl r k).2.1 (eeW sy pl r k).2.2.1 (sy 240 (eeW sy pl r k).2.2.2)) := by rw [e]; rfl
theorem eeW_2 : ∀ m : Nat, (eeW sy pl r m).2.1 = r.2.1
  | 0 => rfl
  | m + 1 => eeW_2 m
theorem eeR_z {v : Int} (e : cf (b + j) = v) (hz : eeA v / 2 ^ lw.toNat = 0) : eeR sy pl lw cf b k0 ls t (j + 1) = ((eeR sy pl lw cf b k0 ls t j).1 + 1, (eeR sy pl lw cf b k0 ls t j).2) := by
  show eeR1 sy pl lw (k0 + j) ls (cf (b + j)) (eeR sy pl lw cf b k0 ls t j) = _
  rw [e]
  exact if_pos hz
theorem eeR_m {v a : Int} {m : Nat} (e : cf (b + j) = v) (ea : a = eeA v / 2 ^ lw.toNat) (h1 : 1 < a) (em : m = if k0 + j ≤ ls then ((eeR sy pl lw cf b k0 ls t j).1 / 16).toNat else 0) : eeR sy pl lw cf b k0 ls t (j + 1) = ((eeW sy pl (eeR sy pl lw cf b k0 ls t j) m).1, 2 * (eeW sy pl (eeR sy pl lw cf b k0 ls t j) m).2.1 + a % 2, (eeW sy pl (eeR sy pl lw cf b k0 ls t j) m).2.2.1 + 1, (eeW sy pl (eeR sy pl lw cf b k0 ls t j) m).2.2.2) := by
  show eeR1 sy pl lw (k0 + j) ls (cf (b + j)) (eeR sy pl lw cf b k0 ls t j) = _
  rw [e]
  unfold eeR1 eeR2
  rw [← ea, if_neg (by omega), if_pos h1, ← em]
theorem eeR_1 {v a s V : Int} {m : Nat} (e : cf (b + j) = v) (ea : a = eeA v / 2 ^ lw.toNat) (h1 : a = 1) (em : m = if k0 + j ≤ ls then ((eeR sy pl lw cf b k0 ls t j).1 / 16).toNat else 0) (es : s = 16 * ((eeW sy pl (eeR sy pl lw cf b k0 ls t j) m).1 % 16) + 1) (eV : V = if v < 0 then 0 else 1) : eeR sy pl lw cf b k0 ls t (j + 1) = (0, (eeW sy pl (eeR sy pl lw cf b k0 ls t j) m).2.1, 0, pl (eeW sy pl (eeR sy pl lw cf b k0 ls t j) m).2.1 (eeW sy pl (eeR sy pl lw cf b k0 ls t j) m).2.2.1 (pl V 1 (sy s (eeW sy pl (eeR sy pl lw cf b k0 ls t j) m).2.2.2))) := by
  show eeR1 sy pl lw (k0 + j) ls (cf (b + j)) (eeR sy pl lw cf b k0 ls t j) = _
  rw [e]
  unfold eeR1 eeR2
  rw [← ea, if_neg (by omega), if_neg (by omega), ← em, ← es, ← eV]
theorem eeR_b : ∀ j : Nat, 0 ≤ (eeR sy pl lw cf b k0 ls t j).1 ∧ (eeR sy pl lw cf b k0 ls t j).1 + (eeR sy pl lw cf b k0 ls t j).2.2.1 ≤ j
  | 0 => ⟨by show (0 : Int) ≤ 0; omega, by show (0 : Int) + ((0 : Nat) : Int) ≤ ((0 : Nat) : Int); omega⟩
  | j + 1 => by
    have ih := eeR_b j
    show 0 ≤ (eeR1 sy pl lw (k0 + j) ls (cf (b + j)) (eeR sy pl lw cf b k0 ls t j)).1 ∧ (eeR1 sy pl lw (k0 + j) ls (cf (b + j)) (eeR sy pl lw cf b k0 ls t j)).1 + (eeR1 sy pl lw (k0 + j) ls (cf (b + j)) (eeR sy pl lw cf b k0 ls t j)).2.2.1 ≤ _
    generalize eeR sy pl lw cf b k0 ls t j = q at ih
    unfold eeR1
    split
    · exact ⟨by show 0 ≤ q.1 + 1; omega, by show q.1 + 1 + (q.2.2.1 : Int) ≤ _; omega⟩
    · have hm : 16 * (((if k0 + (j : Int) ≤ ls then (q.1 / 16).toNat else 0) : Nat) : Int) ≤ q.1 := by split <;> omega
      generalize (if k0 + (j : Int) ≤ ls then (q.1 / 16).toNat else 0) = m at hm
      have w1 := eeW_1 (sy := sy) (pl := pl) (r := q) m
      have w2 : (eeW sy pl q m).2.2.1 ≤ q.2.2.1 := by
        cases m with
        | zero => exact Nat.le_refl _
        | succ m => exact Nat.zero_le _
      unfold eeR2
      split
      · refine ⟨by show 0 ≤ (eeW sy pl q m).1; omega, ?_⟩
        show (eeW sy pl q m).1 + (((eeW sy pl q m).2.2.1 + 1 : Nat) : Int) ≤ _
        omega
      · exact ⟨by show (0 : Int) ≤ 0; omega, by show (0 : Int) + ((0 : Nat) : Int) ≤ _; omega⟩
theorem eeRt_p (h : 0 < (eeR sy pl lw cf b k0 ls t n).1 ∨ 0 < (eeR sy pl lw cf b k0 ls t n).2.2.1) : eeRt sy pl lw cf b k0 ls n t = pl (eeR sy pl lw cf b k0 ls t n).2.1 (eeR sy pl lw cf b k0 ls t n).2.2.1 (sy 0 (eeR sy pl lw cf b k0 ls t n).2.2.2) := if_pos h
theorem eeRt_n (h : ¬ (0 < (eeR sy pl lw cf b k0 ls t n).1 ∨ 0 < (eeR sy pl lw cf b k0 ls t n).2.2.1)) : eeRt sy pl lw cf b k0 ls n t = (eeR sy pl lw cf b k0 ls t n).2.2.2 := if_neg h
variable {hg v bf : Int}
theorem eeFi_p (h : 0 < hg) : eeFi sy pl lw hg v bf t = (bf, pl (v / 2 ^ lw.toNat % 2) 1 t) := if_pos h
theorem eeFi_n {x s V : Int} (h : ¬ 0 < hg) (ex : x = v / 2 ^ lw.toNat) (es : s = eeL (eeA (x - bf))) (eV : V = if x - bf < 0 then x - bf - 1 else x - bf) : eeFi sy pl lw hg v bf t = (x, pl V s.toNat (sy s t)) := by
  subst eV es ex
  exact if_neg h
end EES
theorem eeLn_y {lw k0 v : Int} {cf : Nat → Int} {b j : Nat} (e : cf (b + j) = v) (h : eeA v / 2 ^ lw.toNat = 1) : eeLn lw cf b k0 (j + 1) = k0 + j := by
  show (if eeA (cf (b + j)) / 2 ^ lw.toNat = 1 then k0 + (j : Int) else eeLn lw cf b k0 j) = _
  rw [e]
  exact if_pos h
theorem eeLn_n {lw k0 v : Int} {cf : Nat → Int} {b j : Nat} (e : cf (b + j) = v) (h : ¬ eeA v / 2 ^ lw.toNat = 1) : eeLn lw cf b k0 (j + 1) = eeLn lw cf b k0 j := by
  show (if eeA (cf (b + j)) / 2 ^ lw.toNat = 1 then k0 + (j : Int) else eeLn lw cf b k0 j) = _
  rw [e]
  exact if_neg h
theorem eeLn_b {lw k0 : Int} {cf : Nat → Int} {b : Nat} (h0 : 0 ≤ k0) : ∀ j : Nat, -1 ≤ eeLn lw cf b k0 j ∧ eeLn lw cf b k0 j < k0 + j ∧ ∀ i : Nat, i < j → eeA (cf (b + i)) / 2 ^ lw.toNat = 1 → k0 + i ≤ eeLn lw cf b k0 j
  | 0 => ⟨by show (-1 : Int) ≤ -1; omega, by show (-1 : Int) < _; omega, fun i hi => absurd hi (Nat.not_lt_zero _)⟩
  | j + 1 => by
    obtain ⟨a, c, d⟩ := eeLn_b (lw := lw) (k0 := k0) (cf := cf) (b := b) h0 j
    by_cases h : eeA (cf (b + j)) / 2 ^ lw.toNat = 1
    · rw [eeLn_y rfl h]
      exact ⟨by omega, by omega, fun i hi _ => by omega⟩
    · rw [eeLn_n rfl h]
      refine ⟨a, by omega, fun i hi w => ?_⟩
      by_cases e : i = j
      · subst e
        exact absurd w h
      · exact d i (by omega) w
theorem eeA_of {v z : Int} (h1 : 0 ≤ v → z = v) (h2 : v < 0 → z = -v) : z = eeA v := by
  unfold eeA
  split
  · exact h2 (by assumption)
  · exact h1 (by omega)
theorem eeA_nn {v : Int} (h : 0 ≤ v) : eeA v = v := if_neg (by omega)
/-! blocks -/
theorem ecI_y {iv b r : Int} (h1 : 0 < iv) (h2 : 0 < b) (h3 : b % iv = 0) : (if 0 < iv ∧ 0 < b.toNat ∧ ((b.toNat : Nat) : Int) % iv = 0 then 0 else r) = 0 := by
  rw [(by omega : ((b.toNat : Nat) : Int) = b)]
  exact if_pos ⟨h1, by omega, h3⟩
theorem ecI_n {iv b r : Int} (h0 : 0 ≤ b) (h : ¬ (0 < iv ∧ 0 < b ∧ b % iv = 0)) : (if 0 < iv ∧ 0 < b.toNat ∧ ((b.toNat : Nat) : Int) % iv = 0 then 0 else r) = r := by
  rw [(by omega : ((b.toNat : Nat) : Int) = b)]
  exact if_neg (fun w => h ⟨w.1, by have := w.2.1; omega, w.2.2⟩)
theorem ecK_s {iv fr tt hg lw : Int} {cf w0 w1 : Nat → Int} {n : Nat} {bf : Int} {F : Int × (Nat → Int)} {X : Nat → Int} (hb : (if 0 < iv ∧ 0 < n ∧ (n : Int) % iv = 0 then 0 else (ecK iv fr tt hg lw cf w0 w1 n).1) = bf) (hF : F = if fr = 0 then eeFi ecS ecP lw hg (cf (64 * n)) bf (ecK iv fr tt hg lw cf w0 w1 n).2.1 else (bf, (ecK iv fr tt hg lw cf w0 w1 n).2.1)) (hX : X = if 0 < tt ∧ 0 < hg then eeRt ecS ecP lw cf (64 * n + fr.toNat) fr (eeLn lw cf (64 * n + fr.toNat) fr (tt - fr + 1).toNat) (tt - fr + 1).toNat (ecK iv fr tt hg lw cf w0 w1 n).2.2 else if 0 < tt then eeOt ecS ecP lw cf (64 * n + (if 1 ≤ fr then fr else 1).toNat) (tt - (if 1 ≤ fr then fr else 1) + 1).toNat (ecK iv fr tt hg lw cf w0 w1 n).2.2 else (ecK iv fr tt hg lw cf w0 w1 n).2.2) : ecK iv fr tt hg lw cf w0 w1 (n + 1) = (F.1, F.2, X) := by
  subst hX hF hb
  rfl
theorem ewI_y {T : Type} {iv b : Int} {r x : T} (h1 : 0 < iv) (h2 : 0 < b) (h3 : b % iv = 0) : (if 0 < iv ∧ 0 < b.toNat ∧ ((b.toNat : Nat) : Int) % iv = 0 then x else r) = x := by
  rw [(by omega : ((b.toNat : Nat) : Int) = b)]
  exact if_pos ⟨h1, by omega, h3⟩
theorem ewI_n {T : Type} {iv b : Int} {r x : T} (h0 : 0 ≤ b) (h : ¬ (0 < iv ∧ 0 < b ∧ b % iv = 0)) : (if 0 < iv ∧ 0 < b.toNat ∧ ((b.toNat : Nat) : Int) % iv = 0 then x else r) = r := by
  rw [(by omega : ((b.toNat : Nat) : Int) = b)]
  exact if_neg (fun w => h ⟨w.1, by have := w.2.1; omega, w.2.2⟩)
theorem ewK_s {e0 e1 : Nat → Int × Int} {iv fr tt hg lw : Int} {cf : Nat → Int} {g X : gWt} {n : Nat} {P F : Int × gWt} (hb : (if 0 < iv ∧ 0 < n ∧ (n : Int) % iv = 0 then (0, eeM (eeF (ewK e0 e1 iv fr tt hg lw cf g n).2) (208 + ((n : Int) / iv - 1) % 8)) else ewK e0 e1 iv fr tt hg lw cf g n) = P) (hF : F = if fr = 0 then eeFi (ewS e0) eeN lw hg (cf (64 * n)) P.1 P.2 else P) (hX : X = if 0 < tt ∧ 0 < hg then eeRt (ewS e1) eeN lw cf (64 * n + fr.toNat) fr (eeLn lw cf (64 * n + fr.toNat) fr (tt - fr + 1).toNat) (tt - fr + 1).toNat F.2 else if 0 < tt then eeOt (ewS e1) eeN lw cf (64 * n + (if 1 ≤ fr then fr else 1).toNat) (tt - (if 1 ≤ fr then fr else 1) + 1).toNat F.2 else F.2) : ewK e0 e1 iv fr tt hg lw cf g (n + 1) = (F.1, X) := by
  subst hX hF hb
  rfl
/-- counted is counted: 256 stays there -/
theorem ec256 {iv fr tt hg lw : Int} {cf w0 w1 : Nat → Int} (h0 : 0 < w0 256) (h1 : 0 < w1 256) : ∀ n : Nat, 0 < (ecK iv fr tt hg lw cf w0 w1 n).2.1 256 ∧ 0 < (ecK iv fr tt hg lw cf w0 w1 n).2.2 256
  | 0 => ⟨h0, h1⟩
  | n + 1 => by
    obtain ⟨a, b⟩ := ec256 (iv := iv) (fr := fr) (tt := tt) (hg := hg) (lw := lw) (cf := cf) h0 h1 n
    have hs : ∀ (s : Int) (t : Nat → Int) (u : Unit), 0 ≤ s → s < 256 → 0 < t 256 → 0 < ecS s t 256 := by
      intro s t u h0 h1 h
      unfold ecS
      rw [gfu_ne (by omega)]
      exact h
    have hp : ∀ (v : Int) (n : Nat) (t : Nat → Int) (u : Unit), 0 < t 256 → 0 < ecP v n t 256 := fun _ _ _ _ h => h
    refine ⟨?_, ?_⟩
    · show 0 < (if fr = 0 then eeFi ecS ecP lw hg (cf (64 * n)) _ (ecK iv fr tt hg lw cf w0 w1 n).2.1 else (_, (ecK iv fr tt hg lw cf w0 w1 n).2.1)).2 256
      split
      · exact (eeFi_rel (R := fun (t : Nat → Int) (_ : Unit) => 0 < t 256) (sz := fun _ u => u) (pm := fun _ _ u => u) hs hp a (u := ())).2
      · exact a
    · show 0 < (if 0 < tt ∧ 0 < hg then _ else if 0 < tt then _ else (ecK iv fr tt hg lw cf w0 w1 n).2.2) 256
      split
      · exact eeRt_rel (R := fun (t : Nat → Int) (_ : Unit) => 0 < t 256) (sz := fun _ u => u) (pm := fun _ _ u => u) hs hp (fun _ => Iff.rfl) b (u := ())
      · split
        · exact eeOt_rel (R := fun (t : Nat → Int) (_ : Unit) => 0 < t 256) (sz := fun _ u => u) (pm := fun _ _ u => u) hs hp b (u := ())
        · exact b
theorem ecK_B {iv fr tt hg lw : Int} {cf : Nat → Int} (hf : 0 ≤ fr) (ht : tt ≤ 63) {n : Nat} (hn : n ≤ 16) : ewB (ecK iv fr tt hg lw cf e1w e1w n).2.1 1999 ∧ ewB (ecK iv fr tt hg lw cf e1w e1w n).2.2 1999 := by
  obtain ⟨a, b⟩ := ecK_cnt (n := 257) (iv := iv) (hg := hg) (lw := lw) (cf := cf) (w0 := e1w) (w1 := e1w) hf ht n
  exact ⟨e1w_B.of a (by omega), e1w_B.of b (by omega)⟩
/-! what bytes leave as it is -/
theorem ekA_k (L : Nat → Int) (g : gWt) : ∀ n, (ekA L g n).2.1 = g.2.1 ∧ (ekA L g n).2.2.1 = g.2.2.1 ∧ (ekA L g n).1 = g.1 + n
  | 0 => ⟨rfl, rfl, by show g.1 = _; omega⟩
  | n + 1 => by
    obtain ⟨a, b, c⟩ := ekA_k L g n
    exact ⟨a, b, by show (ekA L g n).1 + 1 = _; omega⟩
theorem ekW_k (o : Nat → Int) (g : gWt) : ∀ n, (ekW o g n).2.1 = g.2.1 ∧ (ekW o g n).2.2.1 = g.2.2.1 ∧ (ekW o g n).1 = g.1 + n
  | 0 => ⟨rfl, rfl, by show g.1 = _; omega⟩
  | n + 1 => by
    obtain ⟨a, b, c⟩ := ekW_k o g n
    exact ⟨a, b, by show (ekW o g n).1 + 1 = _; omega⟩
theorem eHt_k (t : Nat → Int) (g : gWt) : ∀ n, (eHt t g n).2.1 = g.2.1 ∧ (eHt t g n).2.2.1 = g.2.2.1 ∧ (eHt t g n).1 = g.1 + n
  | 0 => ⟨rfl, rfl, by show g.1 = _; omega⟩
  | n + 1 => by
    obtain ⟨a, b, c⟩ := eHt_k t g n
    exact ⟨a, b, by show (eHt t g n).1 + 1 = _; omega⟩
theorem gOd_tb {L : Nat → Int} (h16 : ∀ j9 : Nat, j9 < 257 → 0 ≤ L j9 ∧ L j9 ≤ 16) : ∀ s : Nat, s < 256 → 0 ≤ (ekc L s).2 ∧ (ekc L s).2 ≤ 16 := fun s hs => h16 s (by omega)
theorem ite3_1 {α : Type} {A B : Prop} [Decidable A] [Decidable B] {w x y z : α} (h : A) (e : w = x) : w = if A then x else if B then y else z := by
  rw [if_pos h]
  exact e
theorem ite3_2 {α : Type} {A B : Prop} [Decidable A] [Decidable B] {w x y z : α} (h : ¬ A) (h2 : B) (e : w = y) : w = if A then x else if B then y else z := by
  rw [if_neg h, if_pos h2]
  exact e
theorem ite3_3 {α : Type} {A B : Prop} [Decidable A] [Decidable B] {w x y z : α} (h : ¬ A) (h2 : ¬ B) (e : w = z) : w = if A then x else if B then y else z := by
  rw [if_neg h, if_neg h2]
  exact e
theorem ite2_1 {α : Type} {A : Prop} [Decidable A] {w x y : α} (h : A) (e : w = x) : w = if A then x else y := by
  rw [if_pos h]
  exact e
theorem ite2_2 {α : Type} {A : Prop} [Decidable A] {w x y : α} (h : ¬ A) (e : w = y) : w = if A then x else y := by
  rw [if_neg h]
  exact e
/-! the same by shorter names -/
section EEK
variable {T : Type} (sy : Int → T → T) (pl : Int → Nat → T → T)
def eeRk (lw : Int) (cf : Nat → Int) (p fr tt : Int) (t : T) (k : Int) : Int × Int × Nat × T := eeR sy pl lw cf (p + fr).toNat fr (eeLn lw cf (p + fr).toNat fr (tt - fr + 1).toNat) t (k - fr).toNat
def eeWk (r : Int × Int × Nat × T) (a b : Int) : Int × Int × Nat × T := eeW sy pl r ((a - b) / 16).toNat
def eeLk (lw : Int) (cf : Nat → Int) (p fr tt : Int) : Int := eeLn lw cf (p + fr).toNat fr (tt - fr + 1).toNat
def eeRz (lw : Int) (cf : Nat → Int) (p fr tt : Int) (t : T) : T := eeRt sy pl lw cf (p + fr).toNat fr (eeLn lw cf (p + fr).toNat fr (tt - fr + 1).toNat) (tt - fr + 1).toNat t
end EEK
section EEK2
variable {T : Type} {sy : Int → T → T} {pl : Int → Nat → T → T} {lw p fr tt k : Int} {cf : Nat → Int} {t : T} {r : Int × Int × Nat × T}
theorem eeRk_0 : eeRk sy pl lw cf p fr tt t fr = (0, 0, 0, t) := by
  unfold eeRk
  rw [(by omega : (fr - fr).toNat = 0)]
  rfl
theorem eeWk_0 {a : Int} : eeWk sy pl r a a = r := by
  unfold eeWk
  rw [(by omega : ((a - a) / 16).toNat = 0)]
  rfl
theorem eeWk_s {a b : Int} (h : 16 ≤ b) (h2 : b ≤ a) (h3 : (a - b) % 16 = 0) : eeWk sy pl r a (b + (-16)) = ((eeWk sy pl r a b).1 - 16, (eeWk sy pl r a b).2.1, 0, pl (eeWk sy pl r a b).2.1 (eeWk sy pl r a b).2.2.1 (sy 240 (eeWk sy pl r a b).2.2.2)) := eeW_s (by omega)
theorem eeWk_1 {a b : Int} (h2 : b ≤ a) (h3 : (a - b) % 16 = 0) : (eeWk sy pl r a b).1 = r.1 - (a - b) := by
  have := eeW_1 (sy := sy) (pl := pl) (r := r) ((a - b) / 16).toNat
  unfold eeWk
  omega
theorem eeRk_z {v : Int} (h0 : 0 ≤ fr) (hp : 0 ≤ p) (hk : fr ≤ k) (e : cf (p + k).toNat = v) (hz : eeA v / 2 ^ lw.toNat = 0) : eeRk sy pl lw cf p fr tt t (k + 1) = ((eeRk sy pl lw cf p fr tt t k).1 + 1, (eeRk sy pl lw cf p fr tt t k).2) := by
  unfold eeRk
  rw [(by omega : (k + 1 - fr).toNat = (k - fr).toNat + 1)]
  exact eeR_z (by rw [(by omega : (p + fr).toNat + (k - fr).toNat = (p + k).toNat)]; exact e) hz
theorem eeRk_m {v a x y : Int} (h0 : 0 ≤ fr) (hp : 0 ≤ p) (hk : fr ≤ k) (e : cf (p + k).toNat = v) (ea : a = eeA v / 2 ^ lw.toNat) (h1 : 1 < a) (ex : x = (eeRk sy pl lw cf p fr tt t k).1) (hx : 0 ≤ y ∧ y ≤ x) (hm : (k ≤ eeLk lw cf p fr tt ∧ y ≤ 15 ∧ (x - y) % 16 = 0) ∨ (¬ k ≤ eeLk lw cf p fr tt ∧ y = x)) : eeRk sy pl lw cf p fr tt t (k + 1) = ((eeWk sy pl (eeRk sy pl lw cf p fr tt t k) x y).1, 2 * (eeWk sy pl (eeRk sy pl lw cf p fr tt t k) x y).2.1 + a % 2, (eeWk sy pl (eeRk sy pl lw cf p fr tt t k) x y).2.2.1 + 1, (eeWk sy pl (eeRk sy pl lw cf p fr tt t k) x y).2.2.2) := by
  unfold eeRk eeLk at *
  rw [(by omega : (k + 1 - fr).toNat = (k - fr).toNat + 1)]
  exact eeR_m (by rw [(by omega : (p + fr).toNat + (k - fr).toNat = (p + k).toNat)]; exact e) ea h1 (by
    rw [(by omega : fr + (((k - fr).toNat : Nat) : Int) = k), ← ex]
    rcases hm with ⟨c, d1, d2⟩ | ⟨c, d⟩
    · rw [if_pos c]; omega
    · rw [if_neg c]; omega)
theorem eeRk_1 {v a s V x y : Int} (h0 : 0 ≤ fr) (hp : 0 ≤ p) (hk : fr ≤ k) (e : cf (p + k).toNat = v) (ea : a = eeA v / 2 ^ lw.toNat) (h1 : a = 1) (ex : x = (eeRk sy pl lw cf p fr tt t k).1) (hx : 0 ≤ y ∧ y ≤ x) (hm : (k ≤ eeLk lw cf p fr tt ∧ y ≤ 15 ∧ (x - y) % 16 = 0) ∨ (¬ k ≤ eeLk lw cf p fr tt ∧ y = x)) (ey : y = (eeWk sy pl (eeRk sy pl lw cf p fr tt t k) x y).1) (es : s = 16 * (y % 16) + 1) (eV : V = if v < 0 then 0 else 1) : eeRk sy pl lw cf p fr tt t (k + 1) = (0, (eeWk sy pl (eeRk sy pl lw cf p fr tt t k) x y).2.1, 0, pl (eeWk sy pl (eeRk sy pl lw cf p fr tt t k) x y).2.1 (eeWk sy pl (eeRk sy pl lw cf p fr tt t k) x y).2.2.1 (pl V 1 (sy s (eeWk sy pl (eeRk sy pl lw cf p fr tt t k) x y).2.2.2))) := by
  rw [ey] at es
  unfold eeRk eeLk eeWk at *
  rw [(by omega : (k + 1 - fr).toNat = (k - fr).toNat + 1)]
  exact eeR_1 (by rw [(by omega : (p + fr).toNat + (k - fr).toNat = (p + k).toNat)]; exact e) ea h1 (by
    rw [(by omega : fr + (((k - fr).toNat : Nat) : Int) = k), ← ex]
    rcases hm with ⟨c, d1, d2⟩ | ⟨c, d⟩
    · rw [if_pos c]; omega
    · rw [if_neg c]; omega) es eV
theorem eeRk_e (h0 : 0 ≤ fr) (ht : fr ≤ tt) (hk : k = tt + 1) : (0 < (eeRk sy pl lw cf p fr tt t k).1 ∨ 0 < (eeRk sy pl lw cf p fr tt t k).2.2.1 → eeRz sy pl lw cf p fr tt t = pl (eeRk sy pl lw cf p fr tt t k).2.1 (eeRk sy pl lw cf p fr tt t k).2.2.1 (sy 0 (eeRk sy pl lw cf p fr tt t k).2.2.2)) ∧ (¬ (0 < (eeRk sy pl lw cf p fr tt t k).1 ∨ 0 < (eeRk sy pl lw cf p fr tt t k).2.2.1) → eeRz sy pl lw cf p fr tt t = (eeRk sy pl lw cf p fr tt t k).2.2.2) := by
  unfold eeRk eeRz
  rw [hk, (by omega : (tt + 1 - fr).toNat = (tt - fr + 1).toNat)]
  exact ⟨fun h => eeRt_p h, fun h => eeRt_n h⟩
theorem eeLk_1 {v : Int} (h0 : 0 ≤ fr) (hp : 0 ≤ p) (hk : fr ≤ k) (ht : k ≤ tt) (e : cf (p + k).toNat = v) (h : eeA v / 2 ^ lw.toNat = 1) : k ≤ eeLk lw cf p fr tt := by
  have := (eeLn_b (lw := lw) (cf := cf) (b := (p + fr).toNat) (k0 := fr) h0 (tt - fr + 1).toNat).2.2 (k - fr).toNat (by omega) (by rw [(by omega : (p + fr).toNat + (k - fr).toNat = (p + k).toNat), e]; exact h)
  unfold eeLk
  omega
end EEK2
theorem ewB.Rk {w : Nat → Int} {M lw p fr tt k : Int} {cf : Nat → Int} (h : ewB w M) (hk : fr ≤ k) : ewB (eeRk ecS ecP lw cf p fr tt w k).2.2.2 (M + (k - fr)) := (ewB.R h (k - fr).toNat).mono (by omega)
theorem ewB.Wk {r : Int × Int × Nat × (Nat → Int)} {M a b : Int} (h : ewB r.2.2.2 M) (hb : b ≤ a) : ewB (eeWk ecS ecP r a b).2.2.2 (M + (a - b) / 16) := (ewB.W h ((a - b) / 16).toNat).mono (by omega)
theorem e_div1 {b iv : Int} (h1 : 0 < iv) (h2 : 0 < b) (h3 : b % iv = 0) : 1 ≤ b / iv := by
  refine Int.le_ediv_of_mul_le h1 ?_
  rw [Int.one_mul]
  by_cases c : b < iv
  · rw [Int.emod_eq_of_lt (by omega) c] at h3
    omega
  · omega
