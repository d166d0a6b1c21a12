/-! ===== codes by their lengths, and how they are told ===== -/
def ehN (w : Nat → Int) (s : Nat) : Int := (ehE w).2.2 s
def ekN (L : Nat → Int) (l : Int) : Nat → Int
  | 0 => 0
  | s + 1 => ekN L l s + (if L s = l then 1 else 0)
def ekF (L : Nat → Int) : Nat → Int
  | 0 => 0
  | 1 => 0
  | l + 2 => 2 * (ekF L (l + 1) + ekN L ((l + 1 : Nat) : Int) 256)
def ekT (L : Nat → Int) (n : Nat) : Nat → Int
  | 0 => 0
  | l + 1 => ekT L n l + ekN L ((l + 1 : Nat) : Int) n
def ekc (L : Nat → Int) (s : Nat) : Int × Int := (ekF L (L s).toNat + ekN L (L s) s, L s)
theorem ekN_b (L : Nat → Int) (l : Int) : ∀ s : Nat, 0 ≤ ekN L l s ∧ ekN L l s ≤ s
  | 0 => ⟨by show (0 : Int) ≤ 0; omega, by show (0 : Int) ≤ ((0 : Nat) : Int); omega⟩
  | s + 1 => by
    have := ekN_b L l s
    show 0 ≤ ekN L l s + (if L s = l then 1 else 0) ∧ ekN L l s + (if L s = l then 1 else 0) ≤ _
    split <;> omega
theorem ekN_up {L : Nat → Int} {l : Int} {a : Nat} : ∀ {b : Nat}, a ≤ b → (∀ x, a ≤ x → x < b → ¬ L x = l) → ekN L l b = ekN L l a
  | 0, h, _ => by rw [(by omega : a = 0)]
  | b + 1, h, n => by
    by_cases c : a = b + 1
    · rw [c]
    · show ekN L l b + (if L b = l then 1 else 0) = _
      rw [if_neg (n b (by omega) (by omega)), ekN_up (b := b) (by omega) (fun x h1 h2 => n x h1 (by omega))]
      omega
theorem e2p17 (l : Nat) (h : l ≤ 17) : (2 : Int) ^ l ≤ 131072 := by
  have k : ∀ x : Fin 18, (2 : Int) ^ x.val ≤ 131072 := by decide
  exact k ⟨l, by omega⟩
theorem ekF_p (L : Nat → Int) : ∀ l : Nat, 0 ≤ ekF L l ∧ ekF L l + 512 ≤ 512 * 2 ^ l
  | 0 => ⟨by show (0 : Int) ≤ 0; omega, by show (0 : Int) + 512 ≤ 512 * 2 ^ 0; decide⟩
  | 1 => ⟨by show (0 : Int) ≤ 0; omega, by show (0 : Int) + 512 ≤ 512 * 2 ^ 1; decide⟩
  | l + 2 => by
    have ih := ekF_p L (l + 1)
    have nb := ekN_b L ((l + 1 : Nat) : Int) 256
    show 0 ≤ 2 * (ekF L (l + 1) + ekN L ((l + 1 : Nat) : Int) 256) ∧ 2 * (ekF L (l + 1) + ekN L ((l + 1 : Nat) : Int) 256) + 512 ≤ 512 * 2 ^ (l + 2)
    have e : (2 : Int) ^ (l + 2) = 2 ^ (l + 1) * 2 := Int.pow_succ 2 (l + 1)
    omega
theorem ekF_b (L : Nat → Int) {l : Nat} (h : l ≤ 17) : 0 ≤ ekF L l ∧ ekF L l ≤ 67108864 := by
  have a := ekF_p L l
  have b := e2p17 l h
  omega
theorem ekT_s (L : Nat → Int) (n : Nat) : ∀ l : Nat, ekT L (n + 1) l = ekT L n l + (if 1 ≤ L n ∧ L n ≤ l then 1 else 0)
  | 0 => by
    show (0 : Int) = 0 + _
    rw [if_neg (by omega)]
    rfl
  | l + 1 => by
    have ih := ekT_s L n l
    show ekT L (n + 1) l + (ekN L ((l + 1 : Nat) : Int) n + (if L n = ((l + 1 : Nat) : Int) then 1 else 0)) = ekT L n l + ekN L ((l + 1 : Nat) : Int) n + _
    rw [ih]
    by_cases c : L n = ((l + 1 : Nat) : Int)
    · rw [if_pos c, if_neg (by omega), if_pos (by omega)]
      omega
    · rw [if_neg c]
      by_cases c2 : 1 ≤ L n ∧ L n ≤ l
      · rw [if_pos c2, if_pos (by omega)]
        omega
      · rw [if_neg c2, if_neg (by omega)]
        omega
theorem ekT_all {L : Nat → Int} : ∀ n : Nat, (∀ s, s < n → 0 ≤ L s ∧ L s ≤ 16) → ekT L n 16 = gsf (fun s => if 0 < L s then 1 else 0) n
  | 0, _ => rfl
  | n + 1, h => by
    have ih := ekT_all n (fun s hs => h s (by omega))
    have hn := h n (by omega)
    rw [ekT_s, ih]
    show _ = gsf (fun s => if 0 < L s then (1 : Int) else 0) n + (if 0 < L n then 1 else 0)
    by_cases c : 0 < L n
    · rw [if_pos c, if_pos (by omega)]
    · rw [if_neg c, if_neg (by omega)]
theorem ekT_b (L : Nat → Int) (n : Nat) : ∀ l : Nat, 0 ≤ ekT L n l ∧ ekT L n l ≤ n * l
  | 0 => ⟨by show (0 : Int) ≤ 0; omega, by show (0 : Int) ≤ (n : Int) * ((0 : Nat) : Int); omega⟩
  | l + 1 => by
    have ih := ekT_b L n l
    have nb := ekN_b L ((l + 1 : Nat) : Int) n
    show 0 ≤ ekT L n l + ekN L ((l + 1 : Nat) : Int) n ∧ ekT L n l + ekN L ((l + 1 : Nat) : Int) n ≤ (n : Int) * ((l + 1 : Nat) : Int)
    have e : (n : Int) * ((l + 1 : Nat) : Int) = (n : Int) * (l : Int) + n := by
      rw [(by omega : ((l + 1 : Nat) : Int) = (l : Int) + 1), Int.mul_add, Int.mul_one]
    omega
theorem ekT_n (L : Nat → Int) (l : Nat) : ∀ n : Nat, ekT L n l ≤ n
  | 0 => by
    have key : ∀ l : Nat, ekT L 0 l = 0 := by
      intro l
      induction l with
      | zero => rfl
      | succ l ih =>
        show ekT L 0 l + 0 = 0
        omega
    have := key l
    omega
  | n + 1 => by
    have := ekT_n L l n
    rw [ekT_s]
    split <;> omega
theorem ekN_mono {L : Nat → Int} {l : Int} {a : Nat} : ∀ {b : Nat}, a ≤ b → ekN L l a ≤ ekN L l b
  | 0, h => by rw [(by omega : a = 0)]; exact Int.le_refl _
  | b + 1, h => by
    by_cases c : a = b + 1
    · rw [c]; exact Int.le_refl _
    · have := ekN_mono (L := L) (l := l) (a := a) (b := b) (by omega)
      show _ ≤ ekN L l b + (if L b = l then 1 else 0)
      split <;> omega
theorem ekT_lt {L : Nat → Int} {l z : Nat} (hz : z < 256) (e : L z = ((l + 1 : Nat) : Int)) : ekT L 256 l + ekN L ((l + 1 : Nat) : Int) z + 1 ≤ 256 := by
  have a := ekT_n L (l + 1) 256
  have b := ekN_mono (L := L) (l := ((l + 1 : Nat) : Int)) (a := z + 1) (b := 256) (by omega)
  have c : ekN L ((l + 1 : Nat) : Int) (z + 1) = ekN L ((l + 1 : Nat) : Int) z + (if L z = ((l + 1 : Nat) : Int) then 1 else 0) := rfl
  rw [if_pos e] at c
  have d : ekT L 256 (l + 1) = ekT L 256 l + ekN L ((l + 1 : Nat) : Int) 256 := rfl
  omega
def ekA (L : Nat → Int) (g : gWt) : Nat → gWt
  | 0 => g
  | l + 1 => eeB (ekA L g l) (ekN L ((l + 1 : Nat) : Int) 256)
def ekB (L : Nat → Int) (l : Int) (g : gWt) : Nat → gWt
  | 0 => g
  | s + 1 => if L s = l then eeB (ekB L l g s) s else ekB L l g s
def ekD (L : Nat → Int) (g : gWt) : Nat → gWt
  | 0 => g
  | l + 1 => ekB L ((l + 1 : Nat) : Int) (ekD L g l) 256
def ekP (kd : Int) (L : Nat → Int) (g : gWt) : gWt := ekD L (ekA L (eeB (eeT (eeM g 196) (19 + ekT L 256 16)) (16 * kd)) 16) 16
/-- the same, of a row in which symbols lie in order -/
def ekW (o : Nat → Int) (g : gWt) : Nat → gWt
  | 0 => g
  | i + 1 => eeB (ekW o g i) (o i)
theorem ekW_cg {o p : Nat → Int} {g : gWt} : ∀ {n : Nat}, (∀ i, i < n → o i = p i) → ekW o g n = ekW p g n
  | 0, _ => rfl
  | n + 1, h => by
    show eeB (ekW o g n) (o n) = eeB (ekW p g n) (p n)
    rw [ekW_cg (n := n) (fun i hi => h i (by omega)), h n (by omega)]
theorem ekW_put {o : Nat → Int} {g : gWt} {n : Nat} {v : Int} : ekW (gfu o n v) g (n + 1) = eeB (ekW o g n) v := by
  show eeB (ekW (gfu o n v) g n) (gfu o n v n) = _
  rw [gfu_eq, ekW_cg (p := o) (fun i hi => gfu_ne (by omega))]
theorem ekB_up {L : Nat → Int} {l : Int} {g : gWt} {a : Nat} : ∀ {b : Nat}, a ≤ b → (∀ x, a ≤ x → x < b → ¬ L x = l) → ekB L l g b = ekB L l g a
  | 0, h, _ => by rw [(by omega : a = 0)]
  | b + 1, h, n => by
    by_cases c : a = b + 1
    · rw [c]
    · show (if L b = l then eeB (ekB L l g b) b else ekB L l g b) = _
      rw [if_neg (n b (by omega) (by omega)), ekB_up (b := b) (by omega) (fun x h1 h2 => n x h1 (by omega))]
/-- the row of symbols as far as it is known: up to length l, symbol s -/
def ekO (L o : Nat → Int) (l s : Nat) (td : Int) : Prop := td = ekT L 256 l + ekN L ((l + 1 : Nat) : Int) s ∧ ∀ g : gWt, ekW o g td.toNat = ekB L ((l + 1 : Nat) : Int) (ekD L g l) s
theorem ekO.zero {L o : Nat → Int} : ekO L o 0 0 0 := ⟨rfl, fun _ => rfl⟩
theorem ekO.put {L o : Nat → Int} {l s : Nat} {td : Int} (h : ekO L o l s td) (e : L s = ((l + 1 : Nat) : Int)) : ekO L (gfu o td.toNat s) l (s + 1) (td + 1) := by
  obtain ⟨h1, h2⟩ := h
  have tb := ekT_b L 256 l
  have nb := ekN_b L ((l + 1 : Nat) : Int) s
  refine ⟨?_, fun g => ?_⟩
  · show td + 1 = ekT L 256 l + (ekN L ((l + 1 : Nat) : Int) s + (if L s = ((l + 1 : Nat) : Int) then 1 else 0))
    rw [if_pos e]
    omega
  · rw [(by omega : (td + 1).toNat = td.toNat + 1), ekW_put, h2 g]
    show _ = (if L s = ((l + 1 : Nat) : Int) then eeB (ekB L ((l + 1 : Nat) : Int) (ekD L g l) s) s else _)
    rw [if_pos e]
theorem ekO.up {L o : Nat → Int} {l s t : Nat} {td : Int} (h : ekO L o l s td) (hs : s ≤ t) (n : ∀ x, s ≤ x → x < t → ¬ L x = ((l + 1 : Nat) : Int)) : ekO L o l t td := by
  refine ⟨?_, fun g => ?_⟩
  · rw [ekN_up hs n]
    exact h.1
  · rw [ekB_up hs n]
    exact h.2 g
theorem ekO.next {L o : Nat → Int} {l : Nat} {td : Int} (h : ekO L o l 256 td) : ekO L o (l + 1) 0 td := ⟨by
  have := h.1
  show td = ekT L 256 l + ekN L ((l + 1 : Nat) : Int) 256 + 0
  omega, fun g => h.2 g⟩
/-! ===== a scan ===== -/
def eSh (fr tt hg lw : Int) (g : gWt) : gWt := eeB (eeB (eeB (eeB (eeB (eeB (eeT (eeM g 218) 8) 1) 1) 0) fr) tt) (16 * hg + lw)
def eSc (iv fr tt hg lw : Int) (cf : Nat → Int) (n : Nat) (g : gWt) : gWt :=
  eeF (ewK (ekc (ehN (ecK iv fr tt hg lw cf e1w e1w n).2.1)) (ekc (ehN (ecK iv fr tt hg lw cf e1w e1w n).2.2)) iv fr tt hg lw cf (eSh fr tt hg lw (if 0 < tt then ekP 1 (ehN (ecK iv fr tt hg lw cf e1w e1w n).2.2) (if fr = 0 ∧ hg = 0 then ekP 0 (ehN (ecK iv fr tt hg lw cf e1w e1w n).2.1) g else g) else (if fr = 0 ∧ hg = 0 then ekP 0 (ehN (ecK iv fr tt hg lw cf e1w e1w n).2.1) g else g))) n).2
def eHt (tb : Nat → Int) (g : gWt) : Nat → gWt
  | 0 => g
  | i + 1 => eeB (eHt tb g i) (tb i)
def eHd (tb : Nat → Int) (sc hh ww iv : Int) : gWt :=
  let a := eHt tb (eeB (eeT (eeM (eeM (0, 0, 0, fun _ => 0) 216) 219) 67) 0) 64
  let b := eeB (eeB (eeB (eeB (eeT (eeT (eeB (eeT (eeM a (if 0 < sc then 194 else 192)) 11) 8) hh) ww) 1) 1) 17) 0
  if 0 < iv then eeT (eeT (eeM b 221) 4) iv else b
def eEs (iv : Int) (cf : Nat → Int) (n : Nat) (ff tt hh ll : Nat → Int) (g : gWt) : Nat → gWt
  | 0 => g
  | i + 1 => eSc iv (ff i) (tt i) (hh i) (ll i) cf n (eEs iv cf n ff tt hh ll g i)
def eEn (tb : Nat → Int) (sc hh ww iv : Int) (cf : Nat → Int) (n : Nat) (ff tt ha ll : Nat → Int) : gWt :=
  eeM (if sc = 0 then eSc iv 0 63 0 0 cf n (eHd tb sc hh ww iv) else eEs iv cf n ff tt ha ll (eHd tb sc hh ww iv) sc.toNat) 217
