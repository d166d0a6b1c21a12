/-! ===== the reference's scans: counted from nought, the end's own symbol behind it ===== -/
def e0w : Nat → Int := fun _ => 0
theorem e0w_B : ewB e0w 100 := ⟨fun _ => Int.le_refl 0, by decide +kernel⟩
theorem e0w_J : ∀ i, i < 514 → (0 : Int) = eeJ e0w e0w i := by
  intro i _
  unfold eeJ e0w
  split <;> rfl
theorem ecS_256 {s : Int} {t : Nat → Int} (h0 : 0 ≤ s) (h1 : s < 256) : ecS s (gfu t 256 1) = gfu (ecS s t) 256 1 := by
  have e1 : ¬ (256 : Nat) = s.toNat := by omega
  have e2 : ¬ s.toNat = 256 := by omega
  funext x
  unfold ecS
  by_cases hx : x = 256
  · subst hx
    rw [gfu_ne e1, gfu_eq, gfu_eq]
  · by_cases hs : x = s.toNat
    · subst hs
      rw [gfu_eq, gfu_ne e2, gfu_ne e2, gfu_eq]
    · rw [gfu_ne hs, gfu_ne hx, gfu_ne hx, gfu_ne hs]
theorem e01w : e1w = gfu e0w 256 1 := by
  funext x
  unfold e1w
  by_cases hx : x = 256
  · subst hx
    rw [gfu_eq, if_pos rfl]
  · rw [gfu_ne hx, if_neg hx]
    rfl
theorem ecK_01 {iv fr tt hg lw : Int} {cf : Nat → Int} : ∀ n : Nat, (ecK iv fr tt hg lw cf e1w e1w n).1 = (ecK iv fr tt hg lw cf e0w e0w n).1 ∧ (ecK iv fr tt hg lw cf e1w e1w n).2.1 = gfu (ecK iv fr tt hg lw cf e0w e0w n).2.1 256 1 ∧ (ecK iv fr tt hg lw cf e1w e1w n).2.2 = gfu (ecK iv fr tt hg lw cf e0w e0w n).2.2 256 1
  | 0 => ⟨rfl, e01w, e01w⟩
  | n + 1 => by
    obtain ⟨a, b, c⟩ := ecK_01 (iv := iv) (fr := fr) (tt := tt) (hg := hg) (lw := lw) (cf := cf) n
    have hs : ∀ (s : Int) (t u : Nat → Int), 0 ≤ s → s < 256 → t = gfu u 256 1 → ecS s t = gfu (ecS s u) 256 1 := by
      intro s t u h0 h1 h
      rw [h]
      exact ecS_256 h0 h1
    have hp : ∀ (v : Int) (n : Nat) (t u : Nat → Int), t = gfu u 256 1 → ecP v n t = gfu (ecP v n u) 256 1 := fun _ _ _ _ h => h
    have A : (if fr = 0 then eeFi ecS ecP lw hg (cf (64 * n)) (if 0 < iv ∧ 0 < n ∧ (n : Int) % iv = 0 then 0 else (ecK iv fr tt hg lw cf e1w e1w n).1) (ecK iv fr tt hg lw cf e1w e1w n).2.1 else ((if 0 < iv ∧ 0 < n ∧ (n : Int) % iv = 0 then 0 else (ecK iv fr tt hg lw cf e1w e1w n).1), (ecK iv fr tt hg lw cf e1w e1w n).2.1)).1 = (if fr = 0 then eeFi ecS ecP lw hg (cf (64 * n)) (if 0 < iv ∧ 0 < n ∧ (n : Int) % iv = 0 then 0 else (ecK iv fr tt hg lw cf e0w e0w n).1) (ecK iv fr tt hg lw cf e0w e0w n).2.1 else ((if 0 < iv ∧ 0 < n ∧ (n : Int) % iv = 0 then 0 else (ecK iv fr tt hg lw cf e0w e0w n).1), (ecK iv fr tt hg lw cf e0w e0w n).2.1)).1 ∧ (if fr = 0 then eeFi ecS ecP lw hg (cf (64 * n)) (if 0 < iv ∧ 0 < n ∧ (n : Int) % iv = 0 then 0 else (ecK iv fr tt hg lw cf e1w e1w n).1) (ecK iv fr tt hg lw cf e1w e1w n).2.1 else ((if 0 < iv ∧ 0 < n ∧ (n : Int) % iv = 0 then 0 else (ecK iv fr tt hg lw cf e1w e1w n).1), (ecK iv fr tt hg lw cf e1w e1w n).2.1)).2 = gfu (if fr = 0 then eeFi ecS ecP lw hg (cf (64 * n)) (if 0 < iv ∧ 0 < n ∧ (n : Int) % iv = 0 then 0 else (ecK iv fr tt hg lw cf e0w e0w n).1) (ecK iv fr tt hg lw cf e0w e0w n).2.1 else ((if 0 < iv ∧ 0 < n ∧ (n : Int) % iv = 0 then 0 else (ecK iv fr tt hg lw cf e0w e0w n).1), (ecK iv fr tt hg lw cf e0w e0w n).2.1)).2 256 1 := by
      rw [a]
      by_cases c1 : fr = 0
      · rw [if_pos c1, if_pos c1]
        exact eeFi_rel (R := fun t u => t = gfu u 256 1) hs hp b
      · rw [if_neg c1, if_neg c1]
        exact ⟨rfl, b⟩
    refine ⟨A.1, A.2, ?_⟩
    show (if 0 < tt ∧ 0 < hg then eeRt ecS ecP lw cf (64 * n + fr.toNat) fr (eeLn lw cf (64 * n + fr.toNat) fr (tt - fr + 1).toNat) (tt - fr + 1).toNat (ecK iv fr tt hg lw cf e1w e1w n).2.2 else if 0 < tt then eeOt ecS ecP lw cf (64 * n + (if 1 ≤ fr then fr else 1).toNat) (tt - (if 1 ≤ fr then fr else 1) + 1).toNat (ecK iv fr tt hg lw cf e1w e1w n).2.2 else (ecK iv fr tt hg lw cf e1w e1w n).2.2) = gfu (if 0 < tt ∧ 0 < hg then eeRt ecS ecP lw cf (64 * n + fr.toNat) fr (eeLn lw cf (64 * n + fr.toNat) fr (tt - fr + 1).toNat) (tt - fr + 1).toNat (ecK iv fr tt hg lw cf e0w e0w n).2.2 else if 0 < tt then eeOt ecS ecP lw cf (64 * n + (if 1 ≤ fr then fr else 1).toNat) (tt - (if 1 ≤ fr then fr else 1) + 1).toNat (ecK iv fr tt hg lw cf e0w e0w n).2.2 else (ecK iv fr tt hg lw cf e0w e0w n).2.2) 256 1
    by_cases c1 : 0 < tt ∧ 0 < hg
    · rw [if_pos c1, if_pos c1]
      exact eeRt_rel (R := fun t u => t = gfu u 256 1) hs hp (fun _ => Iff.rfl) c
    · rw [if_neg c1, if_neg c1]
      by_cases c2 : 0 < tt
      · rw [if_pos c2, if_pos c2]
        exact eeOt_rel (R := fun t u => t = gfu u 256 1) hs hp c
      · rw [if_neg c2, if_neg c2]
        exact c
theorem eeJ_n0 {w0 w1 : Nat → Int} {s : Nat} (h : s < 257) : eeJ w0 w1 (257 * 0 + s) = w0 s := by
  unfold eeJ
  rw [(by omega : 257 * 0 + s = s), if_pos h]
theorem eeJ_n1 {w0 w1 : Nat → Int} {s : Nat} : eeJ w0 w1 (257 * 1 + s) = w1 s := by
  unfold eeJ
  rw [if_neg (by omega), (by omega : 257 * 1 + s - 257 = s)]
theorem gRn.J {ty : Nat → Nat} {q : Nat} {f : Nat → Int} {h : gH} (p : gRn 514 ty q f h) : gRn 514 ty q (eeJ f (fun j => f (j + 257))) h := gRn.cg (fun i hi => by
  unfold eeJ
  by_cases c : i < 257
  · rw [if_pos c]
  · rw [if_neg c]
    show f i = f (i - 257 + 257)
    rw [(by omega : i - 257 + 257 = i)]) p
theorem gTk.of0 {P : Prop} {ty : Nat → Nat} {h : gH} {L c0 z1 c1 : Nat → Int} (rs : gRn 514 ty 37 (eeJ L z1) h) (rc : gRn 514 ty 38 (eeJ (eCd L c0 17 0) c1) h) (h16 : ∀ j9 : Nat, j9 < 257 → 0 ≤ L j9 ∧ L j9 ≤ 16) : gTk P 0 ty (ekc L) h := fun _ => ⟨gOd_tb h16, fun c hc s hs => (rs.2 c hc (257 * 0 + s) (by omega)).trans (eeJ_n0 (by omega)), fun c hc s hs h0 => ((rc.2 c hc (257 * 0 + s) (by omega)).trans (eeJ_n0 (by omega))).trans (eCd_f h16 s hs h0)⟩
theorem gTk.of1 {P : Prop} {ty : Nat → Nat} {h : gH} {L c0 z1 c1 : Nat → Int} (rs : gRn 514 ty 37 (eeJ z1 L) h) (rc : gRn 514 ty 38 (eeJ c1 (eCd L c0 17 0)) h) (h16 : ∀ j9 : Nat, j9 < 257 → 0 ≤ L j9 ∧ L j9 ≤ 16) : gTk P 1 ty (ekc L) h := fun _ => ⟨gOd_tb h16, fun c hc s hs => (rs.2 c hc (257 * 1 + s) (by omega)).trans eeJ_n1, fun c hc s hs h0 => ((rc.2 c hc (257 * 1 + s) (by omega)).trans eeJ_n1).trans (eCd_f h16 s hs h0)⟩
theorem eh16N {w : Nat → Int} (h : ewB w 1999) : ∀ j9 : Nat, j9 < 257 → 0 ≤ ehN w j9 ∧ ehN w j9 ≤ 16 := by
  intro j9 hj9
  have h2 := h.2
  unfold ehN ehE
  exact eh16 (fun x _ => h.1 x) (by omega) 257 j9 hj9
