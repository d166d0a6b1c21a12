/-! ===== the transform ===== -/
def eZz (i : Int) : Int := ([0, 1, 8, 16, 9, 2, 3, 10, 17, 24, 32, 25, 18, 11, 4, 5, 12, 19, 26, 33, 40, 48, 41, 34, 27, 20, 13, 6, 7, 14, 21, 28, 35, 42, 49, 56, 57, 50, 43, 36, 29, 22, 15, 23, 30, 37, 44, 51, 58, 59, 52, 45, 38, 31, 39, 46, 53, 60, 61, 54, 47, 55, 62, 63] : List Int).getD i.toNat 0
def eWv (i : Int) : Int := ([4096, 4017, 3784, 3406, 2896, 2276, 1567, 799, 0, -799, -1567, -2276, -2896, -3406, -3784, -4017, -4096, -4017, -3784, -3406, -2896, -2276, -1567, -799, 0, 799, 1567, 2276, 2896, 3406, 3784, 4017] : List Int).getD i.toNat 0
def eVm (k0 : Int) : Int :=
  let k := if 16 < k0 then 32 - k0 else k0
  let w := if 8 < k then 16 - k else k
  let c := if w = 0 then 4096 else if w = 1 then 4017 else if w = 2 then 3784 else if w = 3 then 3406 else if w = 4 then 2896 else if w = 5 then 2276 else if w = 6 then 1567 else if w = 7 then 799 else 0
  if 8 < k then -c else c
theorem eWv_m {k : Int} (h0 : 0 ≤ k) (h1 : k < 32) : eWv k = eVm k := by
  have a : ∀ x : Fin 32, eWv (x.val : Int) = eVm (x.val : Int) := by decide
  have := a ⟨k.toNat, by omega⟩
  rwa [(by omega : ((k.toNat : Nat) : Int) = k)] at this
theorem eWv_b {k : Int} (h0 : 0 ≤ k) (h1 : k < 32) : -4096 ≤ eWv k ∧ eWv k ≤ 4096 := by
  have a : ∀ x : Fin 32, -4096 ≤ eWv (x.val : Int) ∧ eWv (x.val : Int) ≤ 4096 := by decide
  have := a ⟨k.toNat, by omega⟩
  rwa [(by omega : ((k.toNat : Nat) : Int) = k)] at this
def eCs (u x : Int) : Int := if u = 0 then 2896 else eWv ((2 * x + 1) * u % 32)
def eS8 (f : Int → Int) : Nat → Int
  | 0 => 0
  | n + 1 => eS8 f n + f n
theorem eS8_mul {f g : Int → Int} {b : Int} : ∀ n : Nat, eS8 (fun x => f x * b * g x) n = b * eS8 (fun x => f x * g x) n
  | 0 => by
    show (0 : Int) = b * 0
    rw [Int.mul_zero]
  | n + 1 => by
    show eS8 (fun x => f x * b * g x) n + f n * b * g n = b * (eS8 (fun x => f x * g x) n + f n * g n)
    rw [eS8_mul n, Int.mul_add, Int.mul_comm (f n) b, Int.mul_assoc b (f n) (g n)]
theorem eS8_cg {f g : Int → Int} : ∀ n : Nat, (∀ x : Nat, x < n → f x = g x) → eS8 f n = eS8 g n
  | 0, _ => rfl
  | n + 1, h => by
    show eS8 f n + f n = eS8 g n + g n
    rw [eS8_cg n (fun x hx => h x (by omega)), h n (by omega)]
def ePt (C : Nat → Int) (w h x y : Int) : Int := C (32 * (if y < h then y else h - 1) + (if x < w then x else w - 1)).toNat - 128
def eHw (C : Nat → Int) (w h l t u y : Int) : Int := eS8 (fun x => eCs u x * ePt C w h (l + x) (t + y)) 8
def eSm (C : Nat → Int) (w h l t u v : Int) : Int := eS8 (fun y => eCs v y * eHw C w h l t u y) 8
def eQt (s n : Int) : Int := if s < 0 then -((-s + n * 33554432) / (n * 67108864)) else (s + n * 33554432) / (n * 67108864)
theorem eQt_m {s n : Int} : (2 * s + n * 67108864) / (2 * (n * 67108864)) = (s + n * 33554432) / (n * 67108864) := by
  have e : 2 * s + n * 67108864 = 2 * (s + n * 33554432) := by omega
  rw [e, Int.mul_ediv_mul_of_pos _ _ (by decide)]
def eCf (C tb : Nat → Int) (w h cl : Int) (i : Nat) : Int := eQt (eSm C w h (((i / 64 : Nat) : Int) % cl * 8) (((i / 64 : Nat) : Int) / cl * 8) (eZz ((i % 64 : Nat) : Int) % 8) (eZz ((i % 64 : Nat) : Int) / 8)) (tb (i % 64))
def eTb (nb : Nat → Int) (q : Int) (i : Nat) : Int :=
  let t := (nb i * (if q < 50 then 5000 / q else 200 - 2 * q) + 50) / 100
  if t < 1 then 1 else if 255 < t then 255 else t
theorem eZz_b {k : Int} (h0 : 0 ≤ k) (h1 : k < 64) : 0 ≤ eZz k ∧ eZz k ≤ 63 := by
  have a : ∀ x : Fin 64, 0 ≤ eZz (x.val : Int) ∧ eZz (x.val : Int) ≤ 63 := by decide
  have := a ⟨k.toNat, by omega⟩
  rwa [(by omega : ((k.toNat : Nat) : Int) = k)] at this
theorem eCs_0 {x : Int} : eCs 0 x = 2896 := rfl
theorem eCs_n {u x k : Int} (h : ¬ u = 0) (e : k = (2 * x + 1) * u % 32) : eCs u x = eWv k := by
  rw [e]
  exact if_neg h
theorem eCs_b {u x : Int} : -4096 ≤ eCs u x ∧ eCs u x ≤ 4096 := by
  unfold eCs
  split
  · omega
  · exact eWv_b (by omega) (by omega)
theorem eS8_s {f : Int → Int} {n : Nat} : eS8 f (n + 1) = eS8 f n + f n := rfl
theorem eS8_b {f : Int → Int} {M : Int} (h : ∀ x : Nat, -M ≤ f x ∧ f x ≤ M) : ∀ n : Nat, -(M * n) ≤ eS8 f n ∧ eS8 f n ≤ M * n
  | 0 => by
    show -(M * ((0 : Nat) : Int)) ≤ 0 ∧ 0 ≤ M * ((0 : Nat) : Int)
    rw [(by omega : ((0 : Nat) : Int) = 0), Int.mul_zero]
    omega
  | n + 1 => by
    have ih := eS8_b h n
    have hn := h n
    rw [eS8_s, (by omega : ((n + 1 : Nat) : Int) = (n : Int) + 1), Int.mul_add, Int.mul_one]
    omega
/-- half of the sum, as it lies in the row -/
def eHf (C : Nat → Int) (w h l t : Int) (j : Nat) : Int := eHw C w h l t (((j % 8 : Nat) : Int)) (((j / 8 : Nat) : Int))
theorem eTb_of {nb : Nat → Int} {q z s t m v : Int} {i : Nat} (ez : nb i = z) (es : s = if q < 50 then 5000 / q else 200 - 2 * q) (et : t = (z * s + 50) / 100) (m1 : m ≤ 255) (m2 : m ≤ t) (m3 : m = 255 ∨ m = t) (v1 : 1 ≤ v) (v2 : m ≤ v) (v3 : v = 1 ∨ v = m) : v = eTb nb q i := by
  unfold eTb
  rw [ez, ← es, ← et]
  dsimp only
  split
  · omega
  · split <;> omega
theorem ePt_of {C : Nat → Int} {w h x y r c z : Int} (hw : 1 ≤ w) (hh : 1 ≤ h) (hx : 0 ≤ x) (hy : 0 ≤ y) (er : r = if y < h then y else h - 1) (ec : c = if x < w then x else w - 1) (ez : C (r * 32 + c).toNat = z) : z - 128 = ePt C w h x y := by
  unfold ePt
  rw [← er, ← ec, ← ez, (by omega : 32 * r + c = r * 32 + c)]
theorem eQt_p {s n d : Int} (hd : d = n * 67108864) (h : ¬ s < 0) : (s + d / 2) / d = eQt s n := by
  unfold eQt
  rw [if_neg h, hd, (by omega : n * 67108864 / 2 = n * 33554432)]
theorem eQt_n {s n d a : Int} (hd : d = n * 67108864) (ha : a = -s) (h : s < 0) : -((a + d / 2) / d) = eQt s n := by
  unfold eQt
  rw [if_pos h, hd, ha, (by omega : n * 67108864 / 2 = n * 33554432)]
theorem eHw_b {C : Nat → Int} {w h l t u y : Int} (hC : ∀ i : Nat, 0 ≤ C i ∧ C i ≤ 255) : -4194304 ≤ eHw C w h l t u y ∧ eHw C w h l t u y ≤ 4194304 := by
  have hb : ∀ x : Nat, -524288 ≤ eCs u x * ePt C w h (l + x) (t + y) ∧ eCs u x * ePt C w h (l + x) (t + y) ≤ 524288 := by
    intro x
    have a := eCs_b (u := u) (x := (x : Int))
    have b : -128 ≤ ePt C w h (l + x) (t + y) ∧ ePt C w h (l + x) (t + y) ≤ 128 := by
      unfold ePt
      have := hC (32 * (if t + y < h then t + y else h - 1) + (if l + (x : Int) < w then l + (x : Int) else w - 1)).toNat
      omega
    exact zx_s (A := 4096) (B := 128) (by omega) (by omega) (by omega) (by omega)
  have := eS8_b (f := fun x => eCs u x * ePt C w h (l + x) (t + y)) (M := 524288) hb 8
  unfold eHw
  omega
