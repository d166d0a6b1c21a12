/-! ===== what is written, as functions ===== -/
abbrev gWt := Int × Int × Int × (Nat → Int)
def eeB (s : gWt) (v : Int) : gWt := (s.1 + 1, s.2.1, s.2.2.1, gfu s.2.2.2 s.1.toNat (v % 256))
def eeT (s : gWt) (v : Int) : gWt := eeB (eeB s (v / 256)) v
def eeM (s : gWt) (m : Int) : gWt := eeB (eeB s 255) m
def eeb (s : gWt) (b : Int) : gWt :=
  if s.2.2.1 + 1 = 8 then (if 2 * s.2.1 + b = 255 then eeB (eeB (s.1, 0, 0, s.2.2.2) (2 * s.2.1 + b)) 0 else eeB (s.1, 0, 0, s.2.2.2) (2 * s.2.1 + b))
  else (s.1, 2 * s.2.1 + b, s.2.2.1 + 1, s.2.2.2)
/-- k of n bits of v, from the highest on -/
def eeK (v : Int) (n : Nat) (s : gWt) : Nat → gWt
  | 0 => s
  | k + 1 => eeb (eeK v n s k) (v / 2 ^ (n - 1 - k) % 2)
def eeN (v : Int) (n : Nat) (s : gWt) : gWt := eeK v n s n
def eeF (s : gWt) : gWt := if 0 < s.2.2.1 then eeN 255 (8 - s.2.2.1).toNat s else s
def eeOk (s : gWt) : Prop := 0 ≤ s.1 ∧ (0 ≤ s.2.2.1 ∧ s.2.2.1 ≤ 7) ∧ 0 ≤ s.2.1 ∧ s.2.1 < 2 ^ (s.2.2.1).toNat
theorem e2p : ∀ n : Nat, n ≤ 7 → ((2 : Int) ^ n = 1 ∧ n = 0) ∨ ((2 : Int) ^ n = 2 ∧ n = 1) ∨ ((2 : Int) ^ n = 4 ∧ n = 2) ∨ ((2 : Int) ^ n = 8 ∧ n = 3) ∨ ((2 : Int) ^ n = 16 ∧ n = 4) ∨ ((2 : Int) ^ n = 32 ∧ n = 5) ∨ ((2 : Int) ^ n = 64 ∧ n = 6) ∨ ((2 : Int) ^ n = 128 ∧ n = 7) := by
  intro n hn
  rcases (by omega : n = 0 ∨ n = 1 ∨ n = 2 ∨ n = 3 ∨ n = 4 ∨ n = 5 ∨ n = 6 ∨ n = 7) with e | e | e | e | e | e | e | e <;> subst e <;> decide
theorem eeOk.cur {s : gWt} (h : eeOk s) : 0 ≤ s.2.1 ∧ s.2.1 ≤ 127 := by
  obtain ⟨_, h2, h3, h4⟩ := h
  rcases e2p (s.2.2.1).toNat (by omega) with ⟨e, _⟩ | ⟨e, _⟩ | ⟨e, _⟩ | ⟨e, _⟩ | ⟨e, _⟩ | ⟨e, _⟩ | ⟨e, _⟩ | ⟨e, _⟩ <;> rw [e] at h4 <;> omega
theorem eeOk.B {s : gWt} {v : Int} (h : eeOk s) : eeOk (eeB s v) := ⟨by have := h.1; show 0 ≤ s.1 + 1; omega, h.2.1, h.2.2.1, h.2.2.2⟩
theorem eeOk.T {s : gWt} {v : Int} (h : eeOk s) : eeOk (eeT s v) := h.B.B
theorem eeOk.M {s : gWt} {v : Int} (h : eeOk s) : eeOk (eeM s v) := h.B.B
theorem eeOk.z {s : gWt} (h : eeOk s) : eeOk (s.1, 0, 0, s.2.2.2) := ⟨h.1, ⟨by show (0 : Int) ≤ 0; omega, by show (0 : Int) ≤ 7; omega⟩, by show (0 : Int) ≤ 0; omega, by show (0 : Int) < 2 ^ (0 : Int).toNat; decide⟩
theorem eeOk_0 : eeOk (0, 0, 0, fun _ => 0) := ⟨Int.le_refl 0, ⟨Int.le_refl 0, by show (0 : Int) ≤ 7; omega⟩, Int.le_refl 0, by show (0 : Int) < 2 ^ (0 : Int).toNat; decide⟩
theorem eeOk.b {s : gWt} {b : Int} (h : eeOk s) (hb : 0 ≤ b ∧ b ≤ 1) : eeOk (eeb s b) := by
  unfold eeb
  split
  · split
    · exact h.z.B.B
    · exact h.z.B
  · rename_i c
    obtain ⟨h1, h2, h3, h4⟩ := h
    refine ⟨h1, ⟨by show 0 ≤ s.2.2.1 + 1; omega, by show s.2.2.1 + 1 ≤ 7; omega⟩, by show 0 ≤ 2 * s.2.1 + b; omega, ?_⟩
    show 2 * s.2.1 + b < 2 ^ (s.2.2.1 + 1).toNat
    rw [(by omega : (s.2.2.1 + 1).toNat = (s.2.2.1).toNat + 1), Int.pow_succ]
    omega
theorem eeb_A {s : gWt} {b : Int} (h : ¬ s.2.2.1 + 1 = 8) : (eeb s b).1 = s.1 ∧ (eeb s b).2.1 = 2 * s.2.1 + b ∧ (eeb s b).2.2.1 = s.2.2.1 + 1 ∧ (eeb s b).2.2.2 = s.2.2.2 := by
  unfold eeb
  rw [if_neg h]
  exact ⟨rfl, rfl, rfl, rfl⟩
theorem eeb_B {s : gWt} {b w : Int} (h : s.2.2.1 + 1 = 8) (e : w = 2 * s.2.1 + b) (n : ¬ w = 255) : (eeb s b).1 = s.1 + 1 ∧ (eeb s b).2.1 = 0 ∧ (eeb s b).2.2.1 = 0 ∧ (eeb s b).2.2.2 = (eeB s w).2.2.2 := by
  subst e
  unfold eeb
  rw [if_pos h, if_neg n]
  exact ⟨rfl, rfl, rfl, rfl⟩
theorem eeb_C {s : gWt} {b w : Int} (h : s.2.2.1 + 1 = 8) (e : w = 2 * s.2.1 + b) (n : w = 255) : (eeb s b).1 = s.1 + 1 + 1 ∧ (eeb s b).2.1 = 0 ∧ (eeb s b).2.2.1 = 0 ∧ (eeb s b).2.2.2 = (eeB (eeB s w) 0).2.2.2 := by
  subst e
  unfold eeb
  rw [if_pos h, if_pos n]
  exact ⟨rfl, rfl, rfl, rfl⟩
theorem eeF_n {s : gWt} (h : ¬ 0 < s.2.2.1) : eeF s = s := if_neg h
theorem eeF_p {s : gWt} {h : Int} (h0 : 0 < s.2.2.1) (e : h = s.2.2.1) : eeF s = eeN 255 (8 - h).toNat s := by
  rw [e]
  exact if_pos h0
theorem eeOk.K {s : gWt} {v : Int} {n : Nat} (h : eeOk s) : ∀ k, eeOk (eeK v n s k)
  | 0 => h
  | k + 1 => (eeOk.K h k).b (by omega)
theorem eeOk.N {s : gWt} {v : Int} {n : Nat} (h : eeOk s) : eeOk (eeN v n s) := h.K n
theorem eeOk.F {s : gWt} (h : eeOk s) : eeOk (eeF s) := by
  unfold eeF
  split
  · exact h.N
  · exact h
theorem eeK_cg {v w : Int} {n : Nat} {s : gWt} (h : ∀ i, i < n → v / 2 ^ i % 2 = w / 2 ^ i % 2) : ∀ k, k ≤ n → eeK v n s k = eeK w n s k
  | 0, _ => rfl
  | k + 1, hk => by
    show eeb (eeK v n s k) (v / 2 ^ (n - 1 - k) % 2) = eeb (eeK w n s k) (w / 2 ^ (n - 1 - k) % 2)
    rw [eeK_cg h k (by omega), h (n - 1 - k) (by omega)]
theorem e_bit {v w q : Int} {n i : Nat} (hi : i < n) (h : v = w + q * 2 ^ n) : v / 2 ^ i % 2 = w / 2 ^ i % 2 := by
  obtain ⟨j, rfl⟩ : ∃ j, n = i + (j + 1) := ⟨n - i - 1, by omega⟩
  have e : (2 : Int) ^ (i + (j + 1)) = 2 ^ i * (2 ^ j * 2) := by rw [Int.pow_add, Int.pow_succ]
  have p : (0 : Int) < 2 ^ i := Int.pow_pos (by decide)
  have e2 : w + q * 2 ^ (i + (j + 1)) = w + (q * 2 ^ j * 2) * 2 ^ i := by
    rw [e]
    have : q * (2 ^ i * (2 ^ j * 2)) = q * 2 ^ j * 2 * 2 ^ i := by
      rw [Int.mul_comm (2 ^ i) (2 ^ j * 2), ← Int.mul_assoc, ← Int.mul_assoc]
    rw [this]
  rw [h, e2, Int.add_mul_ediv_right _ _ (by omega : (2 : Int) ^ i ≠ 0), Int.add_mul_emod_self_right]
theorem eeN_cg {v w q : Int} {n : Nat} {s : gWt} (h : v = w + q * 2 ^ n) : eeN v n s = eeN w n s := eeK_cg (fun i hi => e_bit hi h) n (Nat.le_refl _)
theorem eeN_1 {v b : Int} {s : gWt} (h : b = v % 2) : eeN v (1 : Int).toNat s = eeb s b := by
  show eeb s (v / 2 ^ (1 - 1 - 0) % 2) = _
  rw [h, (by decide : (2 : Int) ^ (1 - 1 - 0) = 1), Int.ediv_one]
/-- bits 1 until the byte is full -/
def eeU (s : gWt) : Nat → gWt
  | 0 => s
  | k + 1 => if 0 < (eeU s k).2.2.1 then eeb (eeU s k) 1 else eeU s k
theorem e255 : ∀ i : Nat, i < 8 → (255 : Int) / 2 ^ i % 2 = 1 := by
  intro i hi
  rcases (by omega : i = 0 ∨ i = 1 ∨ i = 2 ∨ i = 3 ∨ i = 4 ∨ i = 5 ∨ i = 6 ∨ i = 7) with e | e | e | e | e | e | e | e <;> subst e <;> decide
theorem eeb_h {s : gWt} {b : Int} : (eeb s b).2.2.1 = if s.2.2.1 + 1 = 8 then 0 else s.2.2.1 + 1 := by
  unfold eeb
  split
  · split <;> rfl
  · rfl
theorem eeK_h {s : gWt} {v : Int} {n : Nat} (h0 : 0 ≤ s.2.2.1) (hn : s.2.2.1 + n ≤ 8) : ∀ k, k < n → (eeK v n s k).2.2.1 = s.2.2.1 + k
  | 0, _ => by show s.2.2.1 = s.2.2.1 + ((0 : Nat) : Int); omega
  | k + 1, hk => by
    have ih := eeK_h (v := v) h0 hn k (by omega)
    show (eeb (eeK v n s k) _).2.2.1 = _
    rw [eeb_h, ih, if_neg (by omega)]
    omega
theorem eeF_h {s : gWt} (h : eeOk s) : (eeF s).2.2.1 = 0 := by
  unfold eeF
  split
  · rename_i c
    obtain ⟨k, hk⟩ : ∃ k, (8 - s.2.2.1).toNat = k + 1 := ⟨(8 - s.2.2.1).toNat - 1, by have := h.2.1; omega⟩
    unfold eeN
    rw [hk]
    show (eeb (eeK 255 (k + 1) s k) _).2.2.1 = 0
    have := eeK_h (s := s) (v := 255) (n := k + 1) (by omega) (by have := h.2.1; omega) k (by omega)
    rw [eeb_h, this, if_pos (by have := h.2.1; omega)]
  · have := h.2.1
    omega
/-- as long as bits are held, one more: the same -/
theorem eeU_K {s : gWt} (h : eeOk s) (hp : 0 < s.2.2.1) : ∀ k, k ≤ (8 - s.2.2.1).toNat → eeU s k = eeK 255 (8 - s.2.2.1).toNat s k
  | 0, _ => rfl
  | k + 1, hk => by
    have ih := eeU_K h hp k (by omega)
    have hh := eeK_h (s := s) (v := 255) (n := (8 - s.2.2.1).toNat) (by omega) (by have := h.2.1; omega) k (by omega)
    show (if 0 < (eeU s k).2.2.1 then eeb (eeU s k) 1 else eeU s k) = eeb (eeK 255 (8 - s.2.2.1).toNat s k) (255 / 2 ^ ((8 - s.2.2.1).toNat - 1 - k) % 2)
    rw [ih, if_pos (by omega), e255 _ (by omega)]
/-- how many bits a number has -/
def eeL (a : Int) : Int := if a < 1 then 0 else if a < 2 then 1 else if a < 4 then 2 else if a < 8 then 3 else if a < 16 then 4 else if a < 32 then 5 else if a < 64 then 6 else if a < 128 then 7 else if a < 256 then 8 else if a < 512 then 9 else if a < 1024 then 10 else if a < 2048 then 11 else if a < 4096 then 12 else 13
theorem eeL_b (a : Int) : 0 ≤ eeL a ∧ eeL a ≤ 13 := by unfold eeL; repeat' (split; omega); omega
def eeA (v : Int) : Int := if v < 0 then -v else v
section EEG
variable {T : Type} (sy : Int → T → T) (pl : Int → Nat → T → T)
/-- n-fold 240 -/
def eeZ (t : T) : Nat → T
  | 0 => t
  | n + 1 => sy 240 (eeZ t n)
/-- one coefficient of a first scan: zeros before it, and what is written -/
def eeO1 (lw v : Int) (r : Int × T) : Int × T :=
  if eeA v / 2 ^ lw.toNat = 0 then (r.1 + 1, r.2)
  else (0, pl (if v < 0 then -(eeA v / 2 ^ lw.toNat) - 1 else eeA v / 2 ^ lw.toNat) (eeL (eeA v / 2 ^ lw.toNat)).toNat (sy (16 * (r.1 % 16) + eeL (eeA v / 2 ^ lw.toNat)) (eeZ sy r.2 (r.1 / 16).toNat)))
def eeO (lw : Int) (cf : Nat → Int) (b : Nat) (t : T) : Nat → Int × T
  | 0 => (0, t)
  | j + 1 => eeO1 sy pl lw (cf (b + j)) (eeO lw cf b t j)
def eeOt (lw : Int) (cf : Nat → Int) (b n : Nat) (t : T) : T :=
  if 0 < (eeO sy pl lw cf b t n).1 then sy 0 (eeO sy pl lw cf b t n).2 else (eeO sy pl lw cf b t n).2
/-- the same of a later scan: zeros, bits that wait (their number, and how many), what is written -/
def eeW (r : Int × Int × Nat × T) : Nat → Int × Int × Nat × T
  | 0 => r
  | n + 1 => ((eeW r n).1 - 16, (eeW r n).2.1, 0, pl (eeW r n).2.1 (eeW r n).2.2.1 (sy 240 (eeW r n).2.2.2))
def eeR2 (lw v : Int) (q : Int × Int × Nat × T) : Int × Int × Nat × T :=
  if 1 < eeA v / 2 ^ lw.toNat then (q.1, 2 * q.2.1 + eeA v / 2 ^ lw.toNat % 2, q.2.2.1 + 1, q.2.2.2)
  else (0, q.2.1, 0, pl q.2.1 q.2.2.1 (pl (if v < 0 then 0 else 1) 1 (sy (16 * (q.1 % 16) + 1) q.2.2.2)))
def eeR1 (lw k ls v : Int) (r : Int × Int × Nat × T) : Int × Int × Nat × T :=
  if eeA v / 2 ^ lw.toNat = 0 then (r.1 + 1, r.2)
  else eeR2 sy pl lw v (eeW sy pl r (if k ≤ ls then (r.1 / 16).toNat else 0))
def eeR (lw : Int) (cf : Nat → Int) (b : Nat) (k0 ls : Int) (t : T) : Nat → Int × Int × Nat × T
  | 0 => (0, 0, 0, t)
  | j + 1 => eeR1 sy pl lw (k0 + j) ls (cf (b + j)) (eeR lw cf b k0 ls t j)
def eeRt (lw : Int) (cf : Nat → Int) (b : Nat) (k0 ls : Int) (n : Nat) (t : T) : T :=
  if 0 < (eeR sy pl lw cf b k0 ls t n).1 ∨ 0 < (eeR sy pl lw cf b k0 ls t n).2.2.1 then pl (eeR sy pl lw cf b k0 ls t n).2.1 (eeR sy pl lw cf b k0 ls t n).2.2.1 (sy 0 (eeR sy pl lw cf b k0 ls t n).2.2.2) else (eeR sy pl lw cf b k0 ls t n).2.2.2
/-- the first coefficient: the one before it, and what is written -/
def eeFi (lw hg v bf : Int) (t : T) : Int × T :=
  if 0 < hg then (bf, pl (v / 2 ^ lw.toNat % 2) 1 t)
  else (v / 2 ^ lw.toNat, pl (if v / 2 ^ lw.toNat - bf < 0 then v / 2 ^ lw.toNat - bf - 1 else v / 2 ^ lw.toNat - bf) (eeL (eeA (v / 2 ^ lw.toNat - bf))).toNat (sy (eeL (eeA (v / 2 ^ lw.toNat - bf))) t))
end EEG
/-- the last coefficient that becomes not 0 in a later scan -/
def eeLn (lw : Int) (cf : Nat → Int) (b : Nat) (k0 : Int) : Nat → Int
  | 0 => -1
  | j + 1 => if eeA (cf (b + j)) / 2 ^ lw.toNat = 1 then k0 + j else eeLn lw cf b k0 j
/-- symbols are counted -/
def ecS (s : Int) (w : Nat → Int) : Nat → Int := gfu w s.toNat (w s.toNat + 1)
def ecP (_ : Int) (_ : Nat) (w : Nat → Int) : Nat → Int := w
/-- symbols are written -/
def ewS (ec : Nat → Int × Int) (s : Int) (g : gWt) : gWt := eeN (ec s.toNat).1 (ec s.toNat).2.toNat g
/-- the blocks of a scan, counted: the value before, how often symbols of both classes come -/
def ecK (iv fr tt hg lw : Int) (cf : Nat → Int) (w0 w1 : Nat → Int) : Nat → Int × (Nat → Int) × (Nat → Int)
  | 0 => (0, w0, w1)
  | b + 1 =>
    let r := ecK iv fr tt hg lw cf w0 w1 b
    let bf := if 0 < iv ∧ 0 < b ∧ (b : Int) % iv = 0 then 0 else r.1
    let p := if fr = 0 then eeFi ecS ecP lw hg (cf (64 * b)) bf r.2.1 else (bf, r.2.1)
    (p.1, p.2, if 0 < tt ∧ 0 < hg then eeRt ecS ecP lw cf (64 * b + fr.toNat) fr (eeLn lw cf (64 * b + fr.toNat) fr (tt - fr + 1).toNat) (tt - fr + 1).toNat r.2.2 else if 0 < tt then eeOt ecS ecP lw cf (64 * b + (if 1 ≤ fr then fr else 1).toNat) (tt - (if 1 ≤ fr then fr else 1) + 1).toNat r.2.2 else r.2.2)
/-- the blocks of a scan, written -/
def ewK (ec0 ec1 : Nat → Int × Int) (iv fr tt hg lw : Int) (cf : Nat → Int) (g : gWt) : Nat → Int × gWt
  | 0 => (0, g)
  | b + 1 =>
    let r := ewK ec0 ec1 iv fr tt hg lw cf g b
    let p := if 0 < iv ∧ 0 < b ∧ (b : Int) % iv = 0 then (0, eeM (eeF r.2) (208 + ((b : Int) / iv - 1) % 8)) else r
    let p := if fr = 0 then eeFi (ewS ec0) eeN lw hg (cf (64 * b)) p.1 p.2 else p
    (p.1, if 0 < tt ∧ 0 < hg then eeRt (ewS ec1) eeN lw cf (64 * b + fr.toNat) fr (eeLn lw cf (64 * b + fr.toNat) fr (tt - fr + 1).toNat) (tt - fr + 1).toNat p.2 else if 0 < tt then eeOt (ewS ec1) eeN lw cf (64 * b + (if 1 ≤ fr then fr else 1).toNat) (tt - (if 1 ≤ fr then fr else 1) + 1).toNat p.2 else p.2)
