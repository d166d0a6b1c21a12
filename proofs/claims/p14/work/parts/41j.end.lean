/-! ===== all of it, one after the other ===== -/
theorem eTb_o2 {nb : Nat → Int} {q z s t v : Int} {i : Nat} (ez : nb i = z) (es : s = if q < 50 then 5000 / q else 200 - 2 * q) (et : t = (z * s + 50) / 100) (ev : v = if t < 1 then 1 else if 255 < t then 255 else t) : v = eTb nb q i := by
  unfold eTb
  rw [ez, ← es, ← et]
  exact ev
theorem eTb_b {nb : Nat → Int} {q : Int} : ∀ j9 : Nat, j9 < 64 → 1 ≤ eTb nb q j9 ∧ eTb nb q j9 ≤ 255 := by
  intro j9 _
  unfold eTb
  dsimp only
  split
  · omega
  · split <;> omega
def eEx (q cw : Int) (a b : gWt) : gWt := if 1 ≤ q ∧ q ≤ 100 ∧ ¬ cw = 0 then a else b
theorem eEx_y {q cw : Int} {a b : gWt} (h : 1 ≤ q ∧ q ≤ 100 ∧ ¬ cw = 0) : eEx q cw a b = a := if_pos h
theorem eEx_n {q cw : Int} {a b : gWt} (h : ¬ (1 ≤ q ∧ q ≤ 100 ∧ ¬ cw = 0)) : eEx q cw a b = b := if_neg h
def eEk (sc iv : Int) (cf : Nat → Int) (n : Nat) (ff tt ha ll : Nat → Int) (g : gWt) (k : Int) : gWt := if sc = 0 then eSc iv 0 63 0 0 cf n g else eEs iv cf n ff tt ha ll g k.toNat
theorem eEk_s {sc iv : Int} {cf : Nat → Int} {n : Nat} {ff tt ha ll : Nat → Int} {g : gWt} {k a b c d : Int} (h0 : 0 ≤ k) (hn : ¬ sc = 0) (ea : ff k.toNat = a) (eb : tt k.toNat = b) (ec : ha k.toNat = c) (ed : ll k.toNat = d) : eEk sc iv cf n ff tt ha ll g (k + 1) = eSc iv a b c d cf n (eEk sc iv cf n ff tt ha ll g k) := by
  unfold eEk
  rw [if_neg hn, if_neg hn, (by omega : (k + 1).toNat = k.toNat + 1), ← ea, ← eb, ← ec, ← ed]
  rfl
theorem eEk_e {tb : Nat → Int} {sc hh ww iv k : Int} {cf : Nat → Int} {n : Nat} {ff tt ha ll : Nat → Int} (h : k = sc) : eEn tb sc hh ww iv cf n ff tt ha ll = eeM (eEk sc iv cf n ff tt ha ll (eHd tb sc hh ww iv) k) 217 := by
  rw [h]
  rfl
theorem eEk_z {sc iv k : Int} {cf : Nat → Int} {n : Nat} {ff tt ha ll : Nat → Int} {g : gWt} (h : sc = 0) : eEk sc iv cf n ff tt ha ll g k = eSc iv 0 63 0 0 cf n g := if_pos h
theorem eEk_0 {sc iv : Int} {cf : Nat → Int} {n : Nat} {ff tt ha ll : Nat → Int} {g : gWt} (h : ¬ sc = 0) : eEk sc iv cf n ff tt ha ll g 0 = g := if_neg h
def eCm (q cw : Int) (f : Nat → Int) : Nat → Int := if 1 ≤ q ∧ q ≤ 100 ∧ ¬ cw = 0 then fun _ => -1 else f
theorem eCm_y {q cw : Int} {f : Nat → Int} (h : 1 ≤ q ∧ q ≤ 100 ∧ ¬ cw = 0) : eCm q cw f = fun _ => -1 := if_pos h
theorem eCm_n {q cw : Int} {f : Nat → Int} (h : ¬ (1 ≤ q ∧ q ≤ 100 ∧ ¬ cw = 0)) : eCm q cw f = f := if_neg h
