/-! ===== the reference's transform ===== -/
theorem eVm_of {k0 k w c z : Int} (h1 : k = if 16 < k0 then 32 - k0 else k0) (h2 : w = if 8 < k then 16 - k else k) (h3 : c = if w = 0 then 4096 else if w = 1 then 4017 else if w = 2 then 3784 else if w = 3 then 3406 else if w = 4 then 2896 else if w = 5 then 2276 else if w = 6 then 1567 else if w = 7 then 799 else 0) (h4 : z = if 8 < k then -c else c) : eVm k0 = z := by
  subst h4 h3 h2 h1
  rfl
theorem eCs_of {u x k0 k w c z : Int} (hu : ¬ u = 0) (e : k0 = (2 * x + 1) * u % 32) (h1 : k = if 16 < k0 then 32 - k0 else k0) (h2 : w = if 8 < k then 16 - k else k) (h3 : c = if w = 0 then 4096 else if w = 1 then 4017 else if w = 2 then 3784 else if w = 3 then 3406 else if w = 4 then 2896 else if w = 5 then 2276 else if w = 6 then 1567 else if w = 7 then 799 else 0) (h4 : z = if 8 < k then -c else c) : z = eCs u x := by
  rw [eCs_n hu e, eWv_m (by omega) (by omega)]
  exact (eVm_of h1 h2 h3 h4).symm
theorem ePt_o2 {C : Nat → Int} {w h x y r c z : Int} (er : r = if y < h then y else h - 1) (ec : c = if x < w then x else w - 1) (ez : C (32 * r + c).toNat = z) : z - 128 = ePt C w h x y := by
  unfold ePt
  rw [← er, ← ec, ← ez]
theorem eQt_pm {s n d : Int} (hd : d = n * 67108864) (h : ¬ s < 0) : (2 * s + d) / (2 * d) = eQt s n := by
  rw [hd, eQt_m]
  exact (if_neg h).symm
theorem eQt_nm {s n d : Int} (hd : d = n * 67108864) (h : s < 0) : -(((-2) * s + d) / (2 * d)) = eQt s n := by
  rw [hd, (by omega : (-2) * s + n * 67108864 = 2 * (-s) + n * 67108864), eQt_m]
  exact (if_pos h).symm
def eG8 (C : Nat → Int) (w h l t u v y : Int) (x : Int) : Int := eCs u x * eCs v y * ePt C w h (l + x) (t + y)
def eH8 (C : Nat → Int) (w h l t u v : Int) (y : Int) : Int := eCs v y * eHw C w h l t u y
theorem eG8_s {C : Nat → Int} {w h l t u v y x p q r : Int} (hx : 0 ≤ x) (hp : p = eCs u x) (hq : q = eCs v y) (hr : r = ePt C w h (l + x) (t + y)) : eS8 (eG8 C w h l t u v y) (x + 1).toNat = eS8 (eG8 C w h l t u v y) x.toNat + p * q * r := by
  rw [(by omega : (x + 1).toNat = x.toNat + 1), eS8_s, (by omega : ((x.toNat : Nat) : Int) = x), hp, hq, hr]
  rfl
theorem eG8_e {C : Nat → Int} {w h l t u v y x : Int} (hx : x = 8) (hy : 0 ≤ y) : eS8 (eH8 C w h l t u v) (y + 1).toNat = eS8 (eH8 C w h l t u v) y.toNat + eS8 (eG8 C w h l t u v y) x.toNat := by
  have e : eS8 (eG8 C w h l t u v y) x.toNat = eCs v y * eHw C w h l t u y := by
    rw [hx]
    exact eS8_mul (f := fun x9 => eCs u x9) (g := fun x9 => ePt C w h (l + x9) (t + y)) 8
  rw [(by omega : (y + 1).toNat = y.toNat + 1), eS8_s, (by omega : ((y.toNat : Nat) : Int) = y), e]
  rfl
theorem eH8_e {C : Nat → Int} {w h l t u v y : Int} (hy : y = 8) : eS8 (eH8 C w h l t u v) y.toNat = eSm C w h l t u v := by
  rw [hy]
  rfl
