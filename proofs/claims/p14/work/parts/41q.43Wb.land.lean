/-! ===== methods of the landed text (by program) ===== -/
theorem gRn.ext {ty : Nat → Nat} {q c : Nat} {t : Nat → Int} {h h' : gH} {k z : Int} (uq : gUq ty) (ht : ty c = q) (hq : 1 ≤ q ∧ q < 100) (f : ∀ x n, ¬ (x = c ∧ n = k.toNat) → h'.2.2.2.2 x n = h.2.2.2.2 x n) (e : h'.2.2.2.2 c k.toNat = .int (zi z)) (h1 : -2147483648 ≤ z) (h2 : z ≤ 2147483647) (h0 : 0 ≤ k) (ez : z = t k.toNat) (p : gRn k.toNat ty q t h) : gRn (k + 1).toNat ty q t h' := ⟨p.1, fun c2 hc j hj9 => by
  have e9 : c2 = c := uq c2 c (hc.trans ht.symm) (by rw [hc]; exact hq.1) (by rw [hc]; exact hq.2)
  subst e9
  by_cases hj : j = k.toNat
  · rw [hj, e, ← ez]
    exact zi_in (by omega)
  · rw [f c2 j (fun w => hj w.2)]
    exact p.2 c2 hc j (by omega)⟩
theorem gRn.nil {ty : Nat → Nat} {q : Nat} {t : Nat → Int} {h : gH} (hp : ∀ k, gpl rT q k = 1000 * q + 999) : gRn (0 : Int).toNat ty q t h := ⟨hp, fun c _ i hi => absurd hi (by omega)⟩
def gUf (ty : Nat → Nat) (q : Nat) (w0 : Nat → Int) (n s : Int) (h : gH) : Prop := ∃ u : Nat → Int, gRn 257 ty q u h ∧ eUf w0 u n s
theorem gUf.fr {ty : Nat → Nat} {q : Nat} {w0 : Nat → Int} {n s : Int} {h h' : gH} {l : List Nat} (g : gFr rT ty l h h') (hl : ¬ (1000 * q + 999) ∈ l) (p : gUf ty q w0 n s h) : gUf ty q w0 n s h' := by
  obtain ⟨u, a, b⟩ := p
  exact ⟨u, a.fr g hl, b⟩
theorem gUf.pt {ty : Nat → Nat} {q c k q2 : Nat} {w0 : Nat → Int} {n s : Int} {h h' : gH} (f : ∀ x j, ¬ (x = c ∧ j = k) → h'.2.2.2.2 x j = h.2.2.2.2 x j) (ht : ty c = q2) (hq : q2 ≠ q) (p : gUf ty q w0 n s h) : gUf ty q w0 n s h' := by
  obtain ⟨u, a, b⟩ := p
  exact ⟨u, a.pt f ht hq, b⟩
/-- the codes as they are told: while they are made (up to length ln, symbol B), and then -/
def gOi (ty : Nat → Nat) (qc qo qd : Nat) (L : Nat → Int) (ln B td : Int) (h : gH) : Prop := ∃ c o d : Nat → Int, gRn 17 ty qc c h ∧ gRn 256 ty qo o h ∧ gRn 257 ty qd d h ∧ (∀ l : Nat, 1 ≤ l → (l : Int) < ln → c l = ekN L (l : Int) 256) ∧ c ln.toNat = ekN L ln B.toNat ∧ ekO L o (ln - 1).toNat B.toNat td ∧ ∀ s : Nat, s < 256 → 0 < L s → L s < ln ∨ (L s = ln ∧ (s : Int) < B) → d s = (ekc L s).1
def gOo (ty : Nat → Nat) (qc qo qd : Nat) (L : Nat → Int) (ln td : Int) (h : gH) : Prop := ∃ c o d : Nat → Int, gRn 17 ty qc c h ∧ gRn 256 ty qo o h ∧ gRn 257 ty qd d h ∧ (∀ l : Nat, 1 ≤ l → (l : Int) < ln → c l = ekN L (l : Int) 256) ∧ ekO L o (ln - 1).toNat 0 td ∧ ∀ s : Nat, s < 256 → 0 < L s → L s < ln → d s = (ekc L s).1
def gOd (ty : Nat → Nat) (qc qo qd : Nat) (L : Nat → Int) (td : Int) (h : gH) : Prop := td = ekT L 256 16 ∧ ∃ c o d : Nat → Int, gRn 17 ty qc c h ∧ gRn 256 ty qo o h ∧ gRn 257 ty qd d h ∧ (∀ l : Nat, 1 ≤ l → l ≤ 16 → c l = ekN L (l : Int) 256) ∧ (∀ g : gWt, ekW o g td.toNat = ekD L g 16) ∧ ∀ s : Nat, s < 256 → 0 < L s → d s = (ekc L s).1
theorem gOo.fin {ty : Nat → Nat} {qc qo qd : Nat} {L : Nat → Int} {td : Int} {h : gH} (h16 : ∀ j9 : Nat, j9 < 257 → 0 ≤ L j9 ∧ L j9 ≤ 16) (p : gOo ty qc qo qd L 17 td h) : gOd ty qc qo qd L td h := by
  obtain ⟨c, o, d, x1, x2, x3, x4, x5, x6⟩ := p
  refine ⟨?_, c, o, d, x1, x2, x3, fun l h1 h2 => x4 l h1 (by omega), fun g => ?_, fun s hs h0 => x6 s hs h0 (by have := h16 s (by omega); omega)⟩
  · have := x5.1
    rw [this]
    show ekT L 256 16 + 0 = _
    omega
  · exact x5.2 g
theorem gOd.fr {ty : Nat → Nat} {qc qo qd : Nat} {L : Nat → Int} {td : Int} {h h' : gH} {l : List Nat} (g : gFr rT ty l h h') (h1 : ¬ (1000 * qc + 999) ∈ l) (h2 : ¬ (1000 * qo + 999) ∈ l) (h3 : ¬ (1000 * qd + 999) ∈ l) (p : gOd ty qc qo qd L td h) : gOd ty qc qo qd L td h' := by
  obtain ⟨e, c, o, d, x1, x2, x3, x4⟩ := p
  exact ⟨e, c, o, d, x1.fr g h1, x2.fr g h2, x3.fr g h3, x4⟩
theorem gOd.pt {ty : Nat → Nat} {qc qo qd b j q2 : Nat} {L : Nat → Int} {td : Int} {h h' : gH} (g : ∀ x n, ¬ (x = b ∧ n = j) → h'.2.2.2.2 x n = h.2.2.2.2 x n) (ht : ty b = q2) (h1 : q2 ≠ qc) (h2 : q2 ≠ qo) (h3 : q2 ≠ qd) (p : gOd ty qc qo qd L td h) : gOd ty qc qo qd L td h' := by
  obtain ⟨e, c, o, d, x1, x2, x3, x4⟩ := p
  exact ⟨e, c, o, d, x1.pt g ht h1, x2.pt g ht h2, x3.pt g ht h3, x4⟩
theorem gOd.gr {nk X l : List Nat} {ty ty2 : Nat → Nat} {qc qo qd : Nat} {rc ro rd : gRg} {L : Nat → Int} {td : Int} {h h2 : gH} (g : gSg nk X l ty h ty2 h2) (hJ : gJ rT 1027 ty h) (c1 : rT qc = some rc) (c2 : rT qo = some ro) (c3 : rT qd = some rd) (n1 : ¬ qc ∈ nk) (n2 : ¬ qo ∈ nk) (n3 : ¬ qd ∈ nk) (h1 : ¬ (1000 * qc + 999) ∈ l) (h3 : ¬ (1000 * qo + 999) ∈ l) (h4 : ¬ (1000 * qd + 999) ∈ l) (p : gOd ty qc qo qd L td h) : gOd ty2 qc qo qd L td h2 := by
  obtain ⟨e, c, o, d, x1, x2, x3, x4⟩ := p
  exact ⟨e, c, o, d, x1.gr g hJ c1 n1 h1, x2.gr g hJ c2 n2 h3, x3.gr g hJ c3 n3 h4, x4⟩
theorem gOo.put {ty : Nat → Nat} {qc qo qd : Nat} {L c o d : Nat → Int} {ln td : Int} {h : gH} (hl : 1 ≤ ln) (x1 : gRn 17 ty qc (gfu c ln.toNat 0) h) (x2 : gRn 256 ty qo o h) (x3 : gRn 257 ty qd d h) (x4 : ∀ l : Nat, 1 ≤ l → (l : Int) < ln → c l = ekN L (l : Int) 256) (x5 : ekO L o (ln - 1).toNat 0 td) (x6 : ∀ s : Nat, s < 256 → 0 < L s → L s < ln → d s = (ekc L s).1) {w0 u : Nat → Int} {n : Int} (p : eUs w0 u n) (hL : ∀ j9 : Nat, j9 < 257 → ¬ 0 < w0 j9 → L j9 = 0) : gOi ty qc qo qd L ln (eNy u n 0) td h := by
  obtain ⟨b, g⟩ := eNy_0 (L := L) p hL hl
  have el : (((ln - 1).toNat + 1 : Nat) : Int) = ln := by omega
  refine ⟨_, o, d, x1, x2, x3, fun l h1 h2 => ?_, ?_, ?_, fun s hs h0 hc => ?_⟩
  · rw [gfu_ne (by omega)]
    exact x4 l h1 h2
  · rw [gfu_eq, ekN_up (a := 0) (by omega) g]
    rfl
  · exact x5.up (by omega) (fun x h1 h2 => by rw [el]; exact g x h1 h2)
  · rcases hc with hc | ⟨hc, hb⟩
    · exact x6 s hs h0 hc
    · exact absurd hc (g s (by omega) (by omega))
theorem gOi.take {ty : Nat → Nat} {qc qo qd : Nat} {L c o d w0 u : Nat → Int} {ln td n i z nx cz : Int} {h : gH} (p : eUs w0 u n) (hL : ∀ j9 : Nat, j9 < 257 → ¬ 0 < w0 j9 → L j9 = 0) (h0 : 0 ≤ i) (h1 : i < n) (hl : 1 ≤ ln) (eu : u i.toNat = z) (hz : z < 256) (ez : L z.toNat = ln) (hn : nx = ekF L ln.toNat + ekN L ln (eNy u n i).toNat) (hcz : c ln.toNat = cz) (y1 : gRn 17 ty qc (gfu c ln.toNat (cz + 1)) h) (y2 : gRn 256 ty qo (gfu o td.toNat z) h) (y3 : gRn 257 ty qd (gfu d z.toNat nx) h) (x4 : ∀ l : Nat, 1 ≤ l → (l : Int) < ln → c l = ekN L (l : Int) 256) (x5 : c ln.toNat = ekN L ln (eNy u n i).toNat) (x6 : ekO L o (ln - 1).toNat (eNy u n i).toNat td) (x7 : ∀ s : Nat, s < 256 → 0 < L s → L s < ln ∨ (L s = ln ∧ (s : Int) < eNy u n i) → d s = (ekc L s).1) : gOi ty qc qo qd L ln (eNy u n (i + 1)) (td + 1) h ∧ nx + 1 = ekF L ln.toNat + ekN L ln (eNy u n (i + 1)).toNat := by
  obtain ⟨g1, g2, g3, g4⟩ := eNy_gap (L := L) (ln := ln) p hL h0 h1 hl eu
  obtain ⟨g5, g6⟩ := g1 hz
  obtain ⟨_, z0, z1⟩ := eNx_w p h0 h1 eu
  have ebz : (eNy u n i).toNat = z.toNat := by omega
  have ezz : ((z.toNat : Nat) : Int) = z := by omega
  have el : (((ln - 1).toNat + 1 : Nat) : Int) = ln := by omega
  have up : ekN L ln (eNy u n (i + 1)).toNat = ekN L ln z.toNat + 1 := by
    rw [ekN_up (a := z.toNat + 1) (b := (eNy u n (i + 1)).toNat) (by omega) (fun x h1 h2 => g4 x (by omega) h2)]
    show ekN L ln z.toNat + (if L z.toNat = ln then 1 else 0) = _
    rw [if_pos ez]
  have ko := x6.put (by rw [ebz, el]; exact ez)
  rw [ebz, ezz] at ko
  refine ⟨⟨_, _, _, y1, y2, y3, fun l h1 h2 => ?_, ?_, ko.up (by omega) (fun x h1 h2 => by rw [el]; exact g4 x (by omega) h2), fun s hs h0 hc => ?_⟩, ?_⟩
  · rw [gfu_ne (by omega)]
    exact x4 l h1 h2
  · rw [gfu_eq, up]
    rw [ebz] at x5
    omega
  · by_cases e : s = z.toNat
    · rw [e, gfu_eq]
      show nx = ekF L (L z.toNat).toNat + ekN L (L z.toNat) z.toNat
      rw [ez, hn, ebz]
    · rw [gfu_ne e]
      refine x7 s hs h0 ?_
      rcases hc with hc | ⟨hc, hb⟩
      · exact Or.inl hc
      · by_cases c2 : (s : Int) < z
        · exact Or.inr ⟨hc, by omega⟩
        · exact absurd hc (g4 s (by omega) (by omega))
  · rw [up, hn, ebz]
    omega
theorem gOi.pass {ty : Nat → Nat} {qc qo qd : Nat} {L w0 u : Nat → Int} {ln td n i z nx : Int} {h : gH} (p : eUs w0 u n) (hL : ∀ j9 : Nat, j9 < 257 → ¬ 0 < w0 j9 → L j9 = 0) (h0 : 0 ≤ i) (h1 : i < n) (hl : 1 ≤ ln) (eu : u i.toNat = z) (hz : ¬ (z < 256 ∧ L z.toNat = ln)) (hn : nx = ekF L ln.toNat + ekN L ln (eNy u n i).toNat) (q : gOi ty qc qo qd L ln (eNy u n i) td h) : gOi ty qc qo qd L ln (eNy u n (i + 1)) td h ∧ nx = ekF L ln.toNat + ekN L ln (eNy u n (i + 1)).toNat := by
  obtain ⟨g1, g2, g3, g4⟩ := eNy_gap (L := L) (ln := ln) p hL h0 h1 hl eu
  obtain ⟨_, z0, z1⟩ := eNx_w p h0 h1 eu
  have el : (((ln - 1).toNat + 1 : Nat) : Int) = ln := by omega
  have key : (eNy u n i).toNat ≤ (eNy u n (i + 1)).toNat ∧ ∀ x : Nat, (eNy u n i).toNat ≤ x → x < (eNy u n (i + 1)).toNat → ¬ L x = ln := by
    by_cases c : z < 256
    · obtain ⟨g5, g6⟩ := g1 c
      refine ⟨by omega, fun x x1 x2 w => ?_⟩
      by_cases e : x = z.toNat
      · rw [e] at w
        exact hz ⟨c, w⟩
      · exact g4 x (by omega) x2 w
    · obtain ⟨g5, g6⟩ := g2 c
      exact ⟨by omega, fun x x1 x2 => by omega⟩
  obtain ⟨c, o, d, x1, x2, x3, x4, x5, x6, x7⟩ := q
  refine ⟨⟨c, o, d, x1, x2, x3, x4, ?_, x6.up key.1 (fun x h1 h2 => by rw [el]; exact key.2 x h1 h2), fun s hs h0 hc => x7 s hs h0 ?_⟩, ?_⟩
  · rw [ekN_up key.1 key.2]
    exact x5
  · rcases hc with hc | ⟨hc, hb⟩
    · exact Or.inl hc
    · by_cases c2 : (s : Int) < eNy u n i
      · exact Or.inr ⟨hc, c2⟩
      · exact absurd hc (key.2 s (by omega) (by omega))
  · rw [ekN_up key.1 key.2]
    exact hn
theorem gOi.next {ty : Nat → Nat} {qc qo qd : Nat} {L : Nat → Int} {ln td nx : Int} {h : gH} (hl : 1 ≤ ln) (hn : nx = ekF L ln.toNat + ekN L ln (256 : Int).toNat) (q : gOi ty qc qo qd L ln 256 td h) : gOo ty qc qo qd L (ln + 1) td h ∧ 2 * nx = ekF L (ln + 1).toNat := by
  obtain ⟨c, o, d, x1, x2, x3, x4, x5, x6, x7⟩ := q
  have el : (((ln - 1).toNat + 1 : Nat) : Int) = ln := by omega
  refine ⟨⟨c, o, d, x1, x2, x3, fun l h1 h2 => ?_, ?_, fun s hs h0 hc => x7 s hs h0 (by omega)⟩, ?_⟩
  · by_cases e : (l : Int) = ln
    · rw [(by omega : l = ln.toNat), (by omega : ((ln.toNat : Nat) : Int) = ln)]
      exact x5
    · exact x4 l h1 (by omega)
  · rw [(by omega : (ln + 1 - 1).toNat = (ln - 1).toNat + 1)]
    exact x6.next
  · obtain ⟨k, hk⟩ : ∃ k : Nat, ln.toNat = k + 1 := ⟨ln.toNat - 1, by omega⟩
    rw [(by omega : (ln + 1).toNat = k + 2), hn, hk]
    show _ = 2 * (ekF L (k + 1) + ekN L ((k + 1 : Nat) : Int) 256)
    rw [(by omega : ((k + 1 : Nat) : Int) = ln)]
    rfl
set_option maxRecDepth 20000 in
set_option maxHeartbeats 4000000 in
theorem cw_fill0 (d : Nat) {ty : Nat → Nat} {h : gH} (hJ : gJ rT 1027 ty h) (a : Nat) (ta : ty a = 97) (v : Int) (rv : 0 ≤ v ∧ v ≤ 255) (uq : gUq ty) : gz gPP gGG gcn (d + 0) gt5 0 (gent [.ref a, .int (zi v)] 4) [] h (fun q _ => gSs rT 1027 ty [97999] h q.2.2 ∧ gfin gt5 q.1 q.2.1 = some none ∧ (gRn 257 ty 97 (fun _ => v) q.2.2)) := by
  have hS : gSs rT 1027 ty [97999] h h := gSs.rf hJ
  refine gz_s 3 (pc' := 3) (L' := [some (.ref a), some (.int (zi v)), some (.int (zi 0)), none]) (S' := [.ref a]) rfl ?_
  refine gs_len rfl (by decide) hS.1 ta rfl rfl rfl (fun z1 ez1 az1 bz1 => ?_)
  have cz1 : 257 ≤ z1 ∧ z1 ≤ 257 := ⟨az1, bz1⟩
  refine gz_s 1 (pc' := 5) (L' := [some (.ref a), some (.int (zi v)), some (.int (zi 0)), some (.int (zi z1))]) (S' := []) rfl ?_
  have lp2 : ∀ (fu : Nat) (h3 : gH) (k : Int), (258 - k).toNat < fu → gSs rT 1027 ty [97999] h h3 → (0 ≤ k ∧ k ≤ 257) → gRn (k).toNat ty 97 (fun _ => v) h3 → gz gPP gGG gcn (d + 0) gt5 5 [some (.ref a), some (.int (zi v)), some (.int (zi k)), some (.int (zi z1))] [] h3 (fun q _ => gSs rT 1027 ty [97999] h q.2.2 ∧ gfin gt5 q.1 q.2.1 = some none ∧ (gRn 257 ty 97 (fun _ => v) q.2.2)) := by
    intro fu
    induction fu with
    | zero => intro h3 k hm; exact absurd hm (Nat.not_lt_zero _)
    | succ fu ihlp2 =>
      intro h3 k lp2m sh3 lp2f0 lp2k0
      have hln : h3.2.2.2.1 a = h.2.2.2.1 a := congrFun sh3.2.2.2.2.1 a
      refine gz_s 2 (pc' := 7) (L' := [some (.ref a), some (.int (zi v)), some (.int (zi k)), some (.int (zi z1))]) (S' := [.int (zi z1), .int (zi k)]) rfl ?_
      by_cases hc4 : (z1 : Int) ≤ k
      · refine gy_icT (pc' := 20) rfl (by decide) (by decide) (by omega) (by omega) hc4 ?_
        have hrw5 : gRn 257 ty 97 (fun _ => v) h3 := by have e9 := lp2k0; rw [(by omega : (k).toNat = 257)] at e9; exact e9
        exact gz_end (I := .return_) (len := 1) rfl (Or.inl rfl) ⟨sh3, rfl, hrw5⟩
      · refine gy_icF rfl (by decide) (by decide) (by omega) (by omega) hc4 ?_
        refine gz_s 3 (pc' := 13) (L' := [some (.ref a), some (.int (zi v)), some (.int (zi k)), some (.int (zi z1))]) (S' := [.int (zi v), .int (zi k), .ref a]) rfl ?_
        have hl6 : 257 ≤ h3.2.2.2.1 a ∧ h3.2.2.2.1 a ≤ 257 := gJ.rowl (G := gGG) sh3.1 ta rfl
        refine gs_ast rfl (by decide) sh3 ta rfl rfl rfl (by decide) (fun _ => rfl) (by omega) (by omega) (fun _ => (by decide : (97999 : Nat) ∈ ([97999] : List Nat))) (by omega) (by omega) (fun h7 sh7 eh7 fh7 => ?_)
        have pr8 := gEl.set (i := k) (z := v) uq ta (by decide) eh7 (by omega) (by omega)
        have hrw9 : gRn (k + 1).toNat ty 97 (fun _ => v) h7 := gRn.ext (z := v) uq ta (by decide) fh7 eh7 (by omega) (by omega) (by omega) rfl lp2k0
        refine gy_s 2 (pc' := 5) (L' := [some (.ref a), some (.int (zi v)), some (.int ((zi k) + zi 1)), some (.int (zi z1))]) (S' := []) (L2 := [some (.ref a), some (.int (zi v)), some (.int (zi (k + 1))), some (.int (zi z1))]) (S2 := []) rfl (by simp only [zi_add, zi_sub, zi_mul, zi_neg, zi_and1, zi_and7, zi_and15, zi_and31, zi_and255]) (by simp only [zi_add, zi_sub, zi_mul, zi_neg, zi_and1, zi_and7, zi_and15, zi_and31, zi_and255]) ?_
        exact gz_wk (ihlp2 h7 (k + 1) (by omega) sh7 (by omega) hrw9) (gLw.s (gLw.s (gLw.s (gLw.s gLw.z))))
  exact gz_wk (lp2 _ h 0 (Nat.lt_succ_self _) hS (by omega) (gRn.nil (fun _ => rfl))) (gLw.s (gLw.s (gLw.s (gLw.s gLw.z))))
set_option maxRecDepth 20000 in
set_option maxHeartbeats 4000000 in
theorem cw_Suited0_forget (d : Nat) {ty : Nat → Nat} {h : gH} (hJ : gJ rT 1027 ty h) (x : Nat) (tx : ty x = 91) (uq : gUq ty) : gz gPP gGG gcn (d + 1) gt105 0 (gent [.ref x] 1) [] h (fun q _ => gSs rT 1027 ty [97999] h q.2.2 ∧ gfin gt105 q.1 q.2.1 = some none ∧ (gRn 257 ty 97 e1w q.2.2)) := by
  have hS : gSs rT 1027 ty [97999] h h := gSs.rf hJ
  refine gz_s 1 (pc' := 1) (L' := [some (.ref x)]) (S' := [.ref x]) rfl ?_
  refine gs_gtr rfl (by decide) rfl hS.1 tx rfl rfl rfl (fun c1 ec1 tc1 => ?_)
  refine gz_s 1 (pc' := 5) (L' := [some (.ref x)]) (S' := [.int (zi 0), .ref c1]) rfl ?_
  refine gz_call rfl (by decide) rfl (by decide) (by decide) (gcal_of rfl rfl rfl (Nat.le_of_ble_eq_true rfl) rfl) (cw_fill0 _ hS.1 c1 tc1 0 ⟨by omega, by omega⟩ uq) (fun q2 _ wq2 => ?_)
  obtain ⟨pq2, oq2, hq2⟩ := q2
  obtain ⟨xq2, gq2, yq2_0⟩ := wq2
  refine ⟨_, gq2, ?_⟩
  show gz gPP gGG gcn _ _ 8 [some (.ref x)] [] hq2 _
  have sq2 : gSs rT 1027 ty [97999] h hq2 := gSs.tr hS xq2 (by decide)
  have s3 := (xq2.2.2.2.2.2 x 5 (by rw [tx]; decide)).trans ec1
  refine gz_s 1 (pc' := 9) (L' := [some (.ref x)]) (S' := [.ref x]) rfl ?_
  refine gs_gtk rfl (by decide) rfl sq2.1 tx rfl rfl s3 ?_
  refine gz_s 2 (pc' := 16) (L' := [some (.ref x)]) (S' := [.int (zi 1), .int (zi 256), .ref c1]) rfl ?_
  have hl4 : 257 ≤ hq2.2.2.2.1 c1 ∧ hq2.2.2.2.1 c1 ≤ 257 := gJ.rowl (G := gGG) sq2.1 tc1 rfl
  refine gs_ast rfl (by decide) sq2 tc1 rfl rfl rfl (by decide) (fun _ => rfl) (by omega) (by omega) (fun _ => (by decide : (97999 : Nat) ∈ ([97999] : List Nat))) (by omega) (by omega) (fun h5 sh5 eh5 fh5 => ?_)
  have pr6 := gRn.put (i := 256) (z := 1) uq tc1 (by decide) fh5 eh5 (by omega) (by omega) yq2_0
  have s7 := (fh5 x 5 (fun q => absurd (((tx).symm.trans (congrArg ty q.1)).trans tc1) (by decide))).trans s3
  have pr8 := gEl.set (i := 256) (z := 1) uq tc1 (by decide) eh5 (by omega) (by omega)
  have hrw9 : gRn 257 ty 97 e1w h5 := gRn.cg (fun _ _ => rfl) pr6
  exact gz_end (I := .return_) (len := 1) rfl (Or.inl rfl) ⟨sh5, rfl, hrw9⟩
set_option maxRecDepth 20000 in
set_option maxHeartbeats 4000000 in
theorem cw_Suited0_countSymbol (d : Nat) {ty : Nat → Nat} {h : gH} (hJ : gJ rT 1027 ty h) (x : Nat) (tx : ty x = 91) (s : Int) (rs : 0 ≤ s ∧ s ≤ 255) (w : Nat → Int) (uq : gUq ty) (hyf97 : gRn 257 ty 97 w h) (hywb : ewB w 90000) : gz gPP gGG gcn (d + 0) gt116 0 (gent [.ref x, .int (zi s)] 2) [] h (fun q _ => gSs rT 1027 ty [97999] h q.2.2 ∧ gfin gt116 q.1 q.2.1 = some none ∧ (gRn 257 ty 97 (ecS s w) q.2.2)) := by
  have hS : gSs rT 1027 ty [97999] h h := gSs.rf hJ
  refine gz_s 1 (pc' := 1) (L' := [some (.ref x), some (.int (zi s))]) (S' := [.int (zi s)]) rfl ?_
  refine gy_ifF rfl (by decide) (by decide) ⟨by omega, by omega⟩ (by first | (simp [zc]; done) | (simp only [zc]; omega)) ?_
  refine gz_s 2 (pc' := 8) (L' := [some (.ref x), some (.int (zi s))]) (S' := [.int (zi 256), .int (zi s)]) rfl ?_
  refine gy_icF rfl (by decide) (by decide) ⟨by omega, by omega⟩ ⟨by omega, by omega⟩ (by first | (simp [zc]; done) | (simp only [zc]; omega)) ?_
  refine gz_s 1 (pc' := 12) (L' := [some (.ref x), some (.int (zi s))]) (S' := [.ref x]) rfl ?_
  refine gs_gtr rfl (by decide) rfl hS.1 tx rfl rfl rfl (fun c1 ec1 tc1 => ?_)
  refine gz_s 2 (pc' := 17) (L' := [some (.ref x), some (.int (zi s))]) (S' := [.int (zi s), .ref c1, .int (zi s), .ref c1]) rfl ?_
  have hl2 : 257 ≤ h.2.2.2.1 c1 ∧ h.2.2.2.1 c1 ≤ 257 := gJ.rowl (G := gGG) hS.1 tc1 rfl
  refine gs_ald rfl (by decide) hS.1 tc1 rfl rfl rfl (by decide) (fun _ => rfl) (by omega) (by omega) (fun z3 ez3 az3 bz3 => ?_)
  have hf4 := gRn.at (i := s) (z := z3) hyf97 tc1 ez3 (by omega) (by omega) (by omega)
  have hb5 := hywb.at (j := (s).toNat) (by omega)
  rw [hf4] at hb5
  refine gy_s 2 (pc' := 20) (L' := [some (.ref x), some (.int (zi s))]) (S' := [.int ((zi z3) + (zi 1)), .int (zi s), .ref c1]) (L2 := [some (.ref x), some (.int (zi s))]) (S2 := [.int (zi (z3 + 1)), .int (zi s), .ref c1]) rfl (by simp only [zi_add, zi_sub, zi_mul, zi_neg, zi_and1, zi_and7, zi_and15, zi_and31, zi_and255]) (by simp only [zi_add, zi_sub, zi_mul, zi_neg, zi_and1, zi_and7, zi_and15, zi_and31, zi_and255]) ?_
  have hl6 : 257 ≤ h.2.2.2.1 c1 ∧ h.2.2.2.1 c1 ≤ 257 := gJ.rowl (G := gGG) hS.1 tc1 rfl
  refine gs_ast rfl (by decide) hS tc1 rfl rfl rfl (by decide) (fun _ => rfl) (by omega) (by omega) (fun _ => (by decide : (97999 : Nat) ∈ ([97999] : List Nat))) (by omega) (by omega) (fun h7 sh7 eh7 fh7 => ?_)
  have pr8 := gRn.put (i := s) (z := z3 + 1) uq tc1 (by decide) fh7 eh7 (by omega) (by omega) hyf97
  have s9 := (fh7 x 5 (fun q => absurd (((tx).symm.trans (congrArg ty q.1)).trans tc1) (by decide))).trans ec1
  have pr10 := gEl.set (i := s) (z := z3 + 1) uq tc1 (by decide) eh7 (by omega) (by omega)
  have hrw11 : gRn 257 ty 97 (ecS s w) h7 := by unfold ecS; rw [hf4]; exact pr8
  exact gz_end (I := .return_) (len := 1) rfl (Or.inl rfl) ⟨sh7, rfl, hrw11⟩
set_option maxRecDepth 20000 in
set_option maxHeartbeats 4000000 in
theorem cw_Suited0_leastGroup (d : Nat) {ty : Nat → Nat} {h : gH} (hJ : gJ rT 1027 ty h) (x : Nat) (tx : ty x = 91) (e : Int) (re : (-1) ≤ e ∧ e ≤ 256) (n : Int) (en : h.2.2.2.2 x 8 = .int (zi n)) (rn : 0 ≤ n ∧ n ≤ 257) (wt u w0 : Nat → Int) (uq : gUq ty) (hyf97 : gRn 257 ty 97 wt h) (hyf99 : gRn 257 ty 99 u h) (hyus : eUs w0 u n) (hyha : ∀ j9 : Nat, j9 < 257 → 0 < wt j9 → 0 < w0 j9) : gz gPP gGG gcn (d + 1) gt123 0 (gent [.ref x, .int (zi e)] 6) [] h (fun q _ => gSs rT 1027 ty [] h q.2.2 ∧ ∃ z : Int, gfin gt123 q.1 q.2.1 = some (some (.int (zi z))) ∧ 0 ≤ z ∧ z ≤ 256 ∧ (ehL wt e 257 < 0 → z = 0) ∧ (0 ≤ ehL wt e 257 → z = ehL wt e 257)) := by
  have hS : gSs rT 1027 ty [] h h := gSs.rf hJ
  refine gz_s 4 (pc' := 4) (L' := [some (.ref x), some (.int (zi e)), some (.int (zi (-1))), some (.int (zi 0)), none, none]) (S' := []) rfl ?_
  have lp1 : ∀ (fu : Nat) (h2 : gH) (ls : Int) (i : Int), (258 - i).toNat < fu → gSs rT 1027 ty [] h h2 → ((-1) ≤ ls ∧ ls ≤ 256) → (0 ≤ i ∧ i ≤ 257) → (i ≤ n) → (ls = ehL wt e (eNx u n i).toNat) → h2.2.2.2.2 x 8 = .int (zi n) → gRn 257 ty 97 wt h2 → gRn 257 ty 99 u h2 → eUs w0 u n → (∀ j9 : Nat, j9 < 257 → 0 < wt j9 → 0 < w0 j9) → gz gPP gGG gcn (d + 1) gt123 4 [some (.ref x), some (.int (zi e)), some (.int (zi ls)), some (.int (zi i)), none, none] [] h2 (fun q _ => gSs rT 1027 ty [] h q.2.2 ∧ ∃ z : Int, gfin gt123 q.1 q.2.1 = some (some (.int (zi z))) ∧ 0 ≤ z ∧ z ≤ 256 ∧ (ehL wt e 257 < 0 → z = 0) ∧ (0 ≤ ehL wt e 257 → z = ehL wt e 257)) := by
    intro fu
    induction fu with
    | zero => intro h2 ls i hm; exact absurd hm (Nat.not_lt_zero _)
    | succ fu ihlp1 =>
      intro h2 ls i lp1m sh2 lp1f0 lp1f1 lp1f2 lp1f3 lp1k0 lp1k1 lp1k2 lp1k3 lp1k4
      refine gz_s 2 (pc' := 6) (L' := [some (.ref x), some (.int (zi e)), some (.int (zi ls)), some (.int (zi i)), none, none]) (S' := [.ref x, .int (zi i)]) rfl ?_
      refine gs_gtk rfl (by decide) rfl sh2.1 tx rfl rfl lp1k0 ?_
      by_cases hc3 : (n : Int) ≤ i
      · refine gy_icT (pc' := 77) rfl (by decide) (by decide) (by omega) (by omega) hc3 ?_
        have hend : ehL wt e (eNx u n i).toNat = ehL wt e 257 := by rw [eNx_n (by omega)]; rfl
        refine gz_s 2 (pc' := 79) (L' := [some (.ref x), some (.int (zi e)), some (.int (zi ls)), some (.int (zi i)), none, none]) (S' := [.int (zi ls), .int (zi 0)]) rfl ?_
        refine gz_call rfl (by decide) rfl (by decide) (by decide) (gcal_of rfl rfl rfl (Nat.le_of_ble_eq_true rfl) rfl) (cl_Math_max _ sh2.1 0 ⟨by omega, by omega⟩ ls ⟨by omega, by omega⟩ ) (fun q4 _ wq4 => ?_)
        obtain ⟨pq4, oq4, hq4⟩ := q4
        obtain ⟨xq4, zq4, gq4, aq4, bq4, uq4_0, uq4_1, uq4_2⟩ := wq4
        refine ⟨_, gq4, ?_⟩
        show gz gPP gGG gcn _ _ 82 [some (.ref x), some (.int (zi e)), some (.int (zi ls)), some (.int (zi i)), none, none] [.int (zi zq4)] hq4 _
        have sq4 : gSs rT 1027 ty [] h hq4 := gSs.tr sh2 xq4 (by decide)
        have s5 := (xq4.2.2.2.2.2 x 8 (by rw [tx]; decide)).trans lp1k0
        have pr6 := gRn.fr xq4.2 (by decide) lp1k1
        have pr7 := gRn.fr xq4.2 (by decide) lp1k2
        exact gz_end (I := .ireturn) (len := 1) rfl (Or.inl rfl) ⟨sq4, zq4, rfl, (by omega), (by omega), (by omega), (by omega)⟩
      · refine gy_icF rfl (by decide) (by decide) (by omega) (by omega) hc3 ?_
        refine gz_s 1 (pc' := 13) (L' := [some (.ref x), some (.int (zi e)), some (.int (zi ls)), some (.int (zi i)), none, none]) (S' := [.ref x]) rfl ?_
        refine gs_gtr rfl (by decide) rfl sh2.1 tx rfl rfl rfl (fun c8 ec8 tc8 => ?_)
        refine gz_s 1 (pc' := 17) (L' := [some (.ref x), some (.int (zi e)), some (.int (zi ls)), some (.int (zi i)), none, none]) (S' := [.int (zi i), .ref c8]) rfl ?_
        have hl9 : 257 ≤ h2.2.2.2.1 c8 ∧ h2.2.2.2.1 c8 ≤ 257 := gJ.rowl (G := gGG) sh2.1 tc8 rfl
        refine gs_ald rfl (by decide) sh2.1 tc8 rfl rfl rfl (by decide) (fun _ => rfl) (by omega) (by omega) (fun z10 ez10 az10 bz10 => ?_)
        have hf11 := gRn.at (i := i) (z := z10) lp1k2 tc8 ez10 (by omega) (by omega) (by omega)
        have hnw := eNx_w lp1k3 (by omega) (by omega) hf11
        refine gz_s 2 (pc' := 21) (L' := [some (.ref x), some (.int (zi e)), some (.int (zi ls)), some (.int (zi i)), some (.int (zi z10)), none]) (S' := [.ref x]) rfl ?_
        refine gs_gtr rfl (by decide) rfl sh2.1 tx rfl rfl rfl (fun c12 ec12 tc12 => ?_)
        refine gz_s 1 (pc' := 26) (L' := [some (.ref x), some (.int (zi e)), some (.int (zi ls)), some (.int (zi i)), some (.int (zi z10)), none]) (S' := [.int (zi z10), .ref c12]) rfl ?_
        have hl13 : 257 ≤ h2.2.2.2.1 c12 ∧ h2.2.2.2.1 c12 ≤ 257 := gJ.rowl (G := gGG) sh2.1 tc12 rfl
        refine gs_ald rfl (by decide) sh2.1 tc12 rfl rfl rfl (by decide) (fun _ => rfl) (by omega) (by omega) (fun z14 ez14 az14 bz14 => ?_)
        have hf15 := gRn.at (i := z10) (z := z14) lp1k1 tc12 ez14 (by omega) (by omega) (by omega)
        have jn16 : ∀ (jn16v0 : Int), ((0 ≤ jn16v0) ∧ (jn16v0 ≤ 1) ∧ (jn16v0 = 1 → (0 < z14 ∧ ¬ z10 = e)) ∧ (jn16v0 = 0 → (z14 ≤ 0 ∨ z10 = e))) → gz gPP gGG gcn (d + 1) gt123 41 [some (.ref x), some (.int (zi e)), some (.int (zi ls)), some (.int (zi i)), some (.int (zi z10)), none] [.int (zi jn16v0)] h2 (fun q _ => gSs rT 1027 ty [] h q.2.2 ∧ ∃ z : Int, gfin gt123 q.1 q.2.1 = some (some (.int (zi z))) ∧ 0 ≤ z ∧ z ≤ 256 ∧ (ehL wt e 257 < 0 → z = 0) ∧ (0 ≤ ehL wt e 257 → z = ehL wt e 257)) := by
          intro jn16v0 jn16d
          refine gz_s 2 (pc' := 45) (L' := [some (.ref x), some (.int (zi e)), some (.int (zi ls)), some (.int (zi i)), some (.int (zi z10)), some (.int (zi jn16v0))]) (S' := [.int (zi jn16v0)]) rfl ?_
          by_cases hc17 : (jn16v0 : Int) = 0
          · refine gy_ifT (pc' := 71) rfl (by decide) (by decide) (by omega) hc17 ?_
            have hst := eLg_st (w := wt) (e := e) (z := z10) (ls := ls) lp1k3 lp1k4 (by omega) (by omega) hf11 (by omega)
            rw [if_neg (by omega)] at hst
            refine gy_s 2 (pc' := 4) (L' := [some (.ref x), some (.int (zi e)), some (.int (zi ls)), some (.int ((zi i) + zi 1)), some (.int (zi z10)), some (.int (zi jn16v0))]) (S' := []) (L2 := [some (.ref x), some (.int (zi e)), some (.int (zi ls)), some (.int (zi (i + 1))), some (.int (zi z10)), some (.int (zi jn16v0))]) (S2 := []) rfl (by simp only [zi_add, zi_sub, zi_mul, zi_neg, zi_and1, zi_and7, zi_and15, zi_and31, zi_and255]) (by simp only [zi_add, zi_sub, zi_mul, zi_neg, zi_and1, zi_and7, zi_and15, zi_and31, zi_and255]) ?_
            exact gz_wk (ihlp1 h2 ls (i + 1) (by omega) sh2 (by omega) (by omega) (by omega) (by omega) lp1k0 lp1k1 lp1k2 lp1k3 lp1k4) (gLw.s (gLw.s (gLw.s (gLw.s (gLw.n (gLw.n gLw.z))))))
          · refine gy_ifF rfl (by decide) (by decide) (by omega) hc17 ?_
            refine gz_s 1 (pc' := 49) (L' := [some (.ref x), some (.int (zi e)), some (.int (zi ls)), some (.int (zi i)), some (.int (zi z10)), some (.int (zi jn16v0))]) (S' := [.int (zi ls)]) rfl ?_
            by_cases hc18 : (ls : Int) < 0
            · refine gy_ifT (pc' := 68) rfl (by decide) (by decide) (by omega) hc18 ?_
              refine gz_s 2 (pc' := 71) (L' := [some (.ref x), some (.int (zi e)), some (.int (zi z10)), some (.int (zi i)), some (.int (zi z10)), some (.int (zi jn16v0))]) (S' := []) rfl ?_
              have hst := eLg_st (w := wt) (e := e) (z := z10) (ls := ls) lp1k3 lp1k4 (by omega) (by omega) hf11 (by omega)
              rw [if_pos ⟨⟨by omega, by omega⟩, by omega⟩] at hst
              refine gy_s 2 (pc' := 4) (L' := [some (.ref x), some (.int (zi e)), some (.int (zi z10)), some (.int ((zi i) + zi 1)), some (.int (zi z10)), some (.int (zi jn16v0))]) (S' := []) (L2 := [some (.ref x), some (.int (zi e)), some (.int (zi z10)), some (.int (zi (i + 1))), some (.int (zi z10)), some (.int (zi jn16v0))]) (S2 := []) rfl (by simp only [zi_add, zi_sub, zi_mul, zi_neg, zi_and1, zi_and7, zi_and15, zi_and31, zi_and255]) (by simp only [zi_add, zi_sub, zi_mul, zi_neg, zi_and1, zi_and7, zi_and15, zi_and31, zi_and255]) ?_
              exact gz_wk (ihlp1 h2 z10 (i + 1) (by omega) sh2 (by omega) (by omega) (by omega) (by omega) lp1k0 lp1k1 lp1k2 lp1k3 lp1k4) (gLw.s (gLw.s (gLw.s (gLw.s (gLw.n (gLw.n gLw.z))))))
            · refine gy_ifF rfl (by decide) (by decide) (by omega) hc18 ?_
              refine gz_s 1 (pc' := 53) (L' := [some (.ref x), some (.int (zi e)), some (.int (zi ls)), some (.int (zi i)), some (.int (zi z10)), some (.int (zi jn16v0))]) (S' := [.ref x]) rfl ?_
              refine gs_gtk rfl (by decide) rfl sh2.1 tx rfl rfl ec12 ?_
              refine gz_s 1 (pc' := 58) (L' := [some (.ref x), some (.int (zi e)), some (.int (zi ls)), some (.int (zi i)), some (.int (zi z10)), some (.int (zi jn16v0))]) (S' := [.int (zi z10), .ref c12]) rfl ?_
              have hl19 : 257 ≤ h2.2.2.2.1 c12 ∧ h2.2.2.2.1 c12 ≤ 257 := gJ.rowl (G := gGG) sh2.1 tc12 rfl
              refine gs_ald rfl (by decide) sh2.1 tc12 rfl rfl rfl (by decide) (fun _ => rfl) (by omega) (by omega) (fun z20 ez20 az20 bz20 => ?_)
              have hf21 := gRn.at (i := z10) (z := z20) lp1k1 tc12 ez20 (by omega) (by omega) (by omega)
              refine gz_s 1 (pc' := 60) (L' := [some (.ref x), some (.int (zi e)), some (.int (zi ls)), some (.int (zi i)), some (.int (zi z10)), some (.int (zi jn16v0))]) (S' := [.ref x, .int (zi z20)]) rfl ?_
              refine gs_gtk rfl (by decide) rfl sh2.1 tx rfl rfl ec12 ?_
              refine gz_s 1 (pc' := 64) (L' := [some (.ref x), some (.int (zi e)), some (.int (zi ls)), some (.int (zi i)), some (.int (zi z10)), some (.int (zi jn16v0))]) (S' := [.int (zi ls), .ref c12, .int (zi z20)]) rfl ?_
              have hl22 : 257 ≤ h2.2.2.2.1 c12 ∧ h2.2.2.2.1 c12 ≤ 257 := gJ.rowl (G := gGG) sh2.1 tc12 rfl
              refine gs_ald rfl (by decide) sh2.1 tc12 rfl rfl rfl (by decide) (fun _ => rfl) (by omega) (by omega) (fun z23 ez23 az23 bz23 => ?_)
              have hf24 := gRn.at (i := ls) (z := z23) lp1k1 tc12 ez23 (by omega) (by omega) (by omega)
              by_cases hc25 : (z23 : Int) < z20
              · refine gy_icT (pc' := 71) rfl (by decide) (by decide) (by omega) (by omega) hc25 ?_
                have hst := eLg_st (w := wt) (e := e) (z := z10) (ls := ls) lp1k3 lp1k4 (by omega) (by omega) hf11 (by omega)
                rw [if_neg (by omega)] at hst
                refine gy_s 2 (pc' := 4) (L' := [some (.ref x), some (.int (zi e)), some (.int (zi ls)), some (.int ((zi i) + zi 1)), some (.int (zi z10)), some (.int (zi jn16v0))]) (S' := []) (L2 := [some (.ref x), some (.int (zi e)), some (.int (zi ls)), some (.int (zi (i + 1))), some (.int (zi z10)), some (.int (zi jn16v0))]) (S2 := []) rfl (by simp only [zi_add, zi_sub, zi_mul, zi_neg, zi_and1, zi_and7, zi_and15, zi_and31, zi_and255]) (by simp only [zi_add, zi_sub, zi_mul, zi_neg, zi_and1, zi_and7, zi_and15, zi_and31, zi_and255]) ?_
                exact gz_wk (ihlp1 h2 ls (i + 1) (by omega) sh2 (by omega) (by omega) (by omega) (by omega) lp1k0 lp1k1 lp1k2 lp1k3 lp1k4) (gLw.s (gLw.s (gLw.s (gLw.s (gLw.n (gLw.n gLw.z))))))
              · refine gy_icF rfl (by decide) (by decide) (by omega) (by omega) hc25 ?_
                refine gz_s 2 (pc' := 71) (L' := [some (.ref x), some (.int (zi e)), some (.int (zi z10)), some (.int (zi i)), some (.int (zi z10)), some (.int (zi jn16v0))]) (S' := []) rfl ?_
                have hst := eLg_st (w := wt) (e := e) (z := z10) (ls := ls) lp1k3 lp1k4 (by omega) (by omega) hf11 (by omega)
                rw [if_pos ⟨⟨by omega, by omega⟩, by omega⟩] at hst
                refine gy_s 2 (pc' := 4) (L' := [some (.ref x), some (.int (zi e)), some (.int (zi z10)), some (.int ((zi i) + zi 1)), some (.int (zi z10)), some (.int (zi jn16v0))]) (S' := []) (L2 := [some (.ref x), some (.int (zi e)), some (.int (zi z10)), some (.int (zi (i + 1))), some (.int (zi z10)), some (.int (zi jn16v0))]) (S2 := []) rfl (by simp only [zi_add, zi_sub, zi_mul, zi_neg, zi_and1, zi_and7, zi_and15, zi_and31, zi_and255]) (by simp only [zi_add, zi_sub, zi_mul, zi_neg, zi_and1, zi_and7, zi_and15, zi_and31, zi_and255]) ?_
                exact gz_wk (ihlp1 h2 z10 (i + 1) (by omega) sh2 (by omega) (by omega) (by omega) (by omega) lp1k0 lp1k1 lp1k2 lp1k3 lp1k4) (gLw.s (gLw.s (gLw.s (gLw.s (gLw.n (gLw.n gLw.z))))))
        by_cases hc26 : (z14 : Int) ≤ 0
        · refine gy_ifT (pc' := 40) rfl (by decide) (by decide) (by omega) hc26 ?_
          refine gz_s 1 (pc' := 41) (L' := [some (.ref x), some (.int (zi e)), some (.int (zi ls)), some (.int (zi i)), some (.int (zi z10)), none]) (S' := [.int (zi 0)]) rfl ?_
          exact jn16 0 (by omega)
        · refine gy_ifF rfl (by decide) (by decide) (by omega) hc26 ?_
          refine gz_s 2 (pc' := 33) (L' := [some (.ref x), some (.int (zi e)), some (.int (zi ls)), some (.int (zi i)), some (.int (zi z10)), none]) (S' := [.int (zi e), .int (zi z10)]) rfl ?_
          by_cases hc27 : (z10 : Int) = e
          · refine gy_icT (pc' := 40) rfl (by decide) (by decide) (by omega) (by omega) hc27 ?_
            refine gz_s 1 (pc' := 41) (L' := [some (.ref x), some (.int (zi e)), some (.int (zi ls)), some (.int (zi i)), some (.int (zi z10)), none]) (S' := [.int (zi 0)]) rfl ?_
            exact jn16 0 (by omega)
          · refine gy_icF rfl (by decide) (by decide) (by omega) (by omega) hc27 ?_
            refine gz_s 2 (pc' := 41) (L' := [some (.ref x), some (.int (zi e)), some (.int (zi ls)), some (.int (zi i)), some (.int (zi z10)), none]) (S' := [.int (zi 1)]) rfl ?_
            exact jn16 1 (by omega)
  have hl0 := eLg_0 (w := wt) (e := e) hyus hyha
  exact gz_wk (lp1 _ h (-1) 0 (Nat.lt_succ_self _) hS (by omega) (by omega) (by omega) (by omega) en hyf97 hyf99 hyus hyha) (gLw.s (gLw.s (gLw.s (gLw.s (gLw.n (gLw.n gLw.z))))))
set_option maxRecDepth 20000 in
set_option maxHeartbeats 4000000 in
theorem cw_Suited0_joinGroups (d : Nat) {ty : Nat → Nat} {h : gH} (hJ : gJ rT 1027 ty h) (x : Nat) (tx : ty x = 91) (a : Int) (ra : 0 ≤ a ∧ a ≤ 256) (b : Int) (rb : 0 ≤ b ∧ b ≤ 256) (n : Int) (en : h.2.2.2.2 x 8 = .int (zi n)) (rn : 0 ≤ n ∧ n ≤ 257) (w g l u w0 : Nat → Int) (pp0 : ¬ a = b) (uq : gUq ty) (hyf97 : gRn 257 ty 97 w h) (hyf98 : gRn 257 ty 98 g h) (hyf96 : gRn 257 ty 96 l h) (hyf99 : gRn 257 ty 99 u h) (hyus : eUs w0 u n) (hyhu : ∀ j9 : Nat, j9 < 257 → ¬ 0 < w0 j9 → ¬ (g j9 = a ∨ g j9 = b)) (hywm : ∀ j9 : Nat, j9 < 257 → 0 ≤ w j9 ∧ w j9 ≤ 1000000) (hylm : ∀ j9 : Nat, j9 < 257 → 0 ≤ l j9 ∧ l j9 ≤ 200) : gz gPP gGG gcn (d + 1) gt124 0 (gent [.ref x, .int (zi a), .int (zi b)] 7) [] h (fun q _ => gSs rT 1027 ty [96999, 97999, 98999] h q.2.2 ∧ gfin gt124 q.1 q.2.1 = some none ∧ (gRn 257 ty 97 ((ehJ a.toNat b.toNat (w, g, l)).1) q.2.2) ∧ (gRn 257 ty 98 ((ehJ a.toNat b.toNat (w, g, l)).2.1) q.2.2) ∧ (gRn 257 ty 96 ((ehJ a.toNat b.toNat (w, g, l)).2.2) q.2.2)) := by
  have hS : gSs rT 1027 ty [96999, 97999, 98999] h h := gSs.rf hJ
  refine gz_s 2 (pc' := 2) (L' := [some (.ref x), some (.int (zi a)), some (.int (zi b)), none, none, none, none]) (S' := [.int (zi b), .int (zi a)]) rfl ?_
  refine gz_call rfl (by decide) rfl (by decide) (by decide) (gcal_of rfl rfl rfl (Nat.le_of_ble_eq_true rfl) rfl) (cl_Math_max _ hS.1 a ⟨by omega, by omega⟩ b ⟨by omega, by omega⟩ ) (fun q1 _ wq1 => ?_)
  obtain ⟨pq1, oq1, hq1⟩ := q1
  obtain ⟨xq1, zq1, gq1, aq1, bq1, uq1_0, uq1_1, uq1_2⟩ := wq1
  refine ⟨_, gq1, ?_⟩
  show gz gPP gGG gcn _ _ 5 [some (.ref x), some (.int (zi a)), some (.int (zi b)), none, none, none, none] [.int (zi zq1)] hq1 _
  have sq1 : gSs rT 1027 ty [96999, 97999, 98999] h hq1 := gSs.tr hS xq1 (by decide)
  have s2 := (xq1.2.2.2.2.2 x 8 (by rw [tx]; decide)).trans en
  have pr3 := gRn.fr xq1.2 (by decide) hyf97
  have pr4 := gRn.fr xq1.2 (by decide) hyf98
  have pr5 := gRn.fr xq1.2 (by decide) hyf96
  have pr6 := gRn.fr xq1.2 (by decide) hyf99
  refine gz_s 2 (pc' := 7) (L' := [some (.ref x), some (.int (zi a)), some (.int (zi b)), some (.int (zi zq1)), none, none, none]) (S' := [.ref x]) rfl ?_
  refine gs_gtr rfl (by decide) rfl sq1.1 tx rfl rfl rfl (fun c7 ec7 tc7 => ?_)
  refine gz_s 1 (pc' := 11) (L' := [some (.ref x), some (.int (zi a)), some (.int (zi b)), some (.int (zi zq1)), none, none, none]) (S' := [.int (zi a), .ref c7]) rfl ?_
  have hl8 : 257 ≤ hq1.2.2.2.1 c7 ∧ hq1.2.2.2.1 c7 ≤ 257 := gJ.rowl (G := gGG) sq1.1 tc7 rfl
  refine gs_ald rfl (by decide) sq1.1 tc7 rfl rfl rfl (by decide) (fun _ => rfl) (by omega) (by omega) (fun z9 ez9 az9 bz9 => ?_)
  have hf10 := gRn.at (i := a) (z := z9) pr3 tc7 ez9 (by omega) (by omega) (by omega)
  have hb11 := hywm (a).toNat (by omega)
  rw [hf10] at hb11
  refine gz_s 1 (pc' := 13) (L' := [some (.ref x), some (.int (zi a)), some (.int (zi b)), some (.int (zi zq1)), none, none, none]) (S' := [.ref x, .int (zi z9)]) rfl ?_
  refine gs_gtk rfl (by decide) rfl sq1.1 tx rfl rfl ec7 ?_
  refine gz_s 1 (pc' := 17) (L' := [some (.ref x), some (.int (zi a)), some (.int (zi b)), some (.int (zi zq1)), none, none, none]) (S' := [.int (zi b), .ref c7, .int (zi z9)]) rfl ?_
  have hl12 : 257 ≤ hq1.2.2.2.1 c7 ∧ hq1.2.2.2.1 c7 ≤ 257 := gJ.rowl (G := gGG) sq1.1 tc7 rfl
  refine gs_ald rfl (by decide) sq1.1 tc7 rfl rfl rfl (by decide) (fun _ => rfl) (by omega) (by omega) (fun z13 ez13 az13 bz13 => ?_)
  have hf14 := gRn.at (i := b) (z := z13) pr3 tc7 ez13 (by omega) (by omega) (by omega)
  have hb15 := hywm (b).toNat (by omega)
  rw [hf14] at hb15
  refine gy_s 3 (pc' := 22) (L' := [some (.ref x), some (.int (zi a)), some (.int (zi b)), some (.int (zi zq1)), some (.int ((zi z9) + (zi z13))), none, none]) (S' := [.ref x]) (L2 := [some (.ref x), some (.int (zi a)), some (.int (zi b)), some (.int (zi zq1)), some (.int (zi (z9 + z13))), none, none]) (S2 := [.ref x]) rfl (by simp only [zi_add, zi_sub, zi_mul, zi_neg, zi_and1, zi_and7, zi_and15, zi_and31, zi_and255]) (by simp only [zi_add, zi_sub, zi_mul, zi_neg, zi_and1, zi_and7, zi_and15, zi_and31, zi_and255]) ?_
  refine gs_gtk rfl (by decide) rfl sq1.1 tx rfl rfl ec7 ?_
  refine gz_s 2 (pc' := 27) (L' := [some (.ref x), some (.int (zi a)), some (.int (zi b)), some (.int (zi zq1)), some (.int (zi (z9 + z13))), none, none]) (S' := [.int (zi 0), .int (zi a), .ref c7]) rfl ?_
  have hl16 : 257 ≤ hq1.2.2.2.1 c7 ∧ hq1.2.2.2.1 c7 ≤ 257 := gJ.rowl (G := gGG) sq1.1 tc7 rfl
  refine gs_ast rfl (by decide) sq1 tc7 rfl rfl rfl (by decide) (fun _ => rfl) (by omega) (by omega) (fun _ => (by decide : (97999 : Nat) ∈ ([96999, 97999, 98999] : List Nat))) (by omega) (by omega) (fun h17 sh17 eh17 fh17 => ?_)
  have pr18 := gRn.put (i := a) (z := 0) uq tc7 (by decide) fh17 eh17 (by omega) (by omega) pr3
  have pr19 := gRn.pt fh17 tc7 (by decide) pr4
  have pr20 := gRn.pt fh17 tc7 (by decide) pr5
  have pr21 := gRn.pt fh17 tc7 (by decide) pr6
  have s22 := (fh17 x 8 (fun q => absurd (((tx).symm.trans (congrArg ty q.1)).trans tc7) (by decide))).trans s2
  have s23 := (fh17 x 5 (fun q => absurd (((tx).symm.trans (congrArg ty q.1)).trans tc7) (by decide))).trans ec7
  have pr24 := gEl.set (i := a) (z := 0) uq tc7 (by decide) eh17 (by omega) (by omega)
  refine gz_s 1 (pc' := 29) (L' := [some (.ref x), some (.int (zi a)), some (.int (zi b)), some (.int (zi zq1)), some (.int (zi (z9 + z13))), none, none]) (S' := [.ref x]) rfl ?_
  refine gs_gtk rfl (by decide) rfl sh17.1 tx rfl rfl s23 ?_
  refine gz_s 2 (pc' := 34) (L' := [some (.ref x), some (.int (zi a)), some (.int (zi b)), some (.int (zi zq1)), some (.int (zi (z9 + z13))), none, none]) (S' := [.int (zi 0), .int (zi b), .ref c7]) rfl ?_
  have hl25 : 257 ≤ h17.2.2.2.1 c7 ∧ h17.2.2.2.1 c7 ≤ 257 := gJ.rowl (G := gGG) sh17.1 tc7 rfl
  refine gs_ast rfl (by decide) sh17 tc7 rfl rfl rfl (by decide) (fun _ => rfl) (by omega) (by omega) (fun _ => (by decide : (97999 : Nat) ∈ ([96999, 97999, 98999] : List Nat))) (by omega) (by omega) (fun h26 sh26 eh26 fh26 => ?_)
  have pr27 := gRn.put (i := b) (z := 0) uq tc7 (by decide) fh26 eh26 (by omega) (by omega) pr18
  have pr28 := gRn.pt fh26 tc7 (by decide) pr19
  have pr29 := gRn.pt fh26 tc7 (by decide) pr20
  have pr30 := gRn.pt fh26 tc7 (by decide) pr21
  have s31 := (fh26 x 8 (fun q => absurd (((tx).symm.trans (congrArg ty q.1)).trans tc7) (by decide))).trans s22
  have s32 := (fh26 x 5 (fun q => absurd (((tx).symm.trans (congrArg ty q.1)).trans tc7) (by decide))).trans s23
  have pr33 := gEl.set (i := b) (z := 0) uq tc7 (by decide) eh26 (by omega) (by omega)
  refine gz_s 1 (pc' := 36) (L' := [some (.ref x), some (.int (zi a)), some (.int (zi b)), some (.int (zi zq1)), some (.int (zi (z9 + z13))), none, none]) (S' := [.ref x]) rfl ?_
  refine gs_gtk rfl (by decide) rfl sh26.1 tx rfl rfl s32 ?_
  refine gz_s 2 (pc' := 42) (L' := [some (.ref x), some (.int (zi a)), some (.int (zi b)), some (.int (zi zq1)), some (.int (zi (z9 + z13))), none, none]) (S' := [.int (zi (z9 + z13)), .int (zi zq1), .ref c7]) rfl ?_
  have hl34 : 257 ≤ h26.2.2.2.1 c7 ∧ h26.2.2.2.1 c7 ≤ 257 := gJ.rowl (G := gGG) sh26.1 tc7 rfl
  refine gs_ast rfl (by decide) sh26 tc7 rfl rfl rfl (by decide) (fun _ => rfl) (by omega) (by omega) (fun _ => (by decide : (97999 : Nat) ∈ ([96999, 97999, 98999] : List Nat))) (by omega) (by omega) (fun h35 sh35 eh35 fh35 => ?_)
  have pr36 := gRn.put (i := zq1) (z := z9 + z13) uq tc7 (by decide) fh35 eh35 (by omega) (by omega) pr27
  have pr37 := gRn.pt fh35 tc7 (by decide) pr28
  have pr38 := gRn.pt fh35 tc7 (by decide) pr29
  have pr39 := gRn.pt fh35 tc7 (by decide) pr30
  have s40 := (fh35 x 8 (fun q => absurd (((tx).symm.trans (congrArg ty q.1)).trans tc7) (by decide))).trans s31
  have s41 := (fh35 x 5 (fun q => absurd (((tx).symm.trans (congrArg ty q.1)).trans tc7) (by decide))).trans s32
  have pr42 := gEl.set (i := zq1) (z := z9 + z13) uq tc7 (by decide) eh35 (by omega) (by omega)
  have hrw43 : gRn 257 ty 97 ((ehJ a.toNat b.toNat (w, g, l)).1) h35 := gRn.cg (eJ_w (by omega) (by omega) (by omega) (by omega) (by have h8 := hf10; have h9 := hf14; omega)) pr36
  refine gz_s 2 (pc' := 46) (L' := [some (.ref x), some (.int (zi a)), some (.int (zi b)), some (.int (zi zq1)), some (.int (zi (z9 + z13))), some (.int (zi 0)), none]) (S' := []) rfl ?_
  have lp44 : ∀ (fu : Nat) (h45 : gH) (i : Int), (258 - i).toNat < fu → gSs rT 1027 ty [96999, 97999, 98999] h h45 → (0 ≤ i ∧ i ≤ 257) → (i ≤ n) → h45.2.2.2.2 x 8 = .int (zi n) → h45.2.2.2.2 x 5 = .ref c7 → gRn 257 ty 97 ((ehJ a.toNat b.toNat (w, g, l)).1) h45 → gRn 257 ty 99 u h45 → eUs w0 u n → (∀ j9 : Nat, j9 < 257 → ¬ 0 < w0 j9 → ¬ (g j9 = a ∨ g j9 = b)) → (∀ j9 : Nat, j9 < 257 → 0 ≤ w j9 ∧ w j9 ≤ 1000000) → (∀ j9 : Nat, j9 < 257 → 0 ≤ l j9 ∧ l j9 ≤ 200) → gEl ty 97 zq1 (z9 + z13) (z9 + z13) h45 → gRn 257 ty 98 (eJg a b g (eNx u n i)) h45 → gRn 257 ty 96 (eJl a b g l (eNx u n i)) h45 → gz gPP gGG gcn (d + 1) gt124 46 [some (.ref x), some (.int (zi a)), some (.int (zi b)), some (.int (zi zq1)), some (.int (zi (z9 + z13))), some (.int (zi i)), none] [] h45 (fun q _ => gSs rT 1027 ty [96999, 97999, 98999] h q.2.2 ∧ gfin gt124 q.1 q.2.1 = some none ∧ (gRn 257 ty 97 ((ehJ a.toNat b.toNat (w, g, l)).1) q.2.2) ∧ (gRn 257 ty 98 ((ehJ a.toNat b.toNat (w, g, l)).2.1) q.2.2) ∧ (gRn 257 ty 96 ((ehJ a.toNat b.toNat (w, g, l)).2.2) q.2.2)) := by
    intro fu
    induction fu with
    | zero => intro h45 i hm; exact absurd hm (Nat.not_lt_zero _)
    | succ fu ihlp44 =>
      intro h45 i lp44m sh45 lp44f0 lp44f1 lp44k0 lp44k1 lp44k2 lp44k3 lp44k4 lp44k5 lp44k6 lp44k7 lp44k8 lp44k9 lp44k10
      refine gz_s 2 (pc' := 49) (L' := [some (.ref x), some (.int (zi a)), some (.int (zi b)), some (.int (zi zq1)), some (.int (zi (z9 + z13))), some (.int (zi i)), none]) (S' := [.ref x, .int (zi i)]) rfl ?_
      refine gs_gtk rfl (by decide) rfl sh45.1 tx rfl rfl lp44k0 ?_
      by_cases hc46 : (n : Int) ≤ i
      · refine gy_icT (pc' := 111) rfl (by decide) (by decide) (by omega) (by omega) hc46 ?_
        have hrw47 : gRn 257 ty 98 ((ehJ a.toNat b.toNat (w, g, l)).2.1) h45 := gRn.cg (eJ_fin (w := w) (l := l) (by omega) (by omega) (eNx_n (by omega))).1 lp44k9
        have hrw48 : gRn 257 ty 96 ((ehJ a.toNat b.toNat (w, g, l)).2.2) h45 := gRn.cg (eJ_fin (w := w) (g := g) (by omega) (by omega) (eNx_n (by omega))).2 lp44k10
        exact gz_end (I := .return_) (len := 1) rfl (Or.inl rfl) ⟨sh45, rfl, lp44k2, hrw47, hrw48⟩
      · refine gy_icF rfl (by decide) (by decide) (by omega) (by omega) hc46 ?_
        refine gz_s 1 (pc' := 56) (L' := [some (.ref x), some (.int (zi a)), some (.int (zi b)), some (.int (zi zq1)), some (.int (zi (z9 + z13))), some (.int (zi i)), none]) (S' := [.ref x]) rfl ?_
        refine gs_gtr rfl (by decide) rfl sh45.1 tx rfl rfl rfl (fun c49 ec49 tc49 => ?_)
        refine gz_s 1 (pc' := 61) (L' := [some (.ref x), some (.int (zi a)), some (.int (zi b)), some (.int (zi zq1)), some (.int (zi (z9 + z13))), some (.int (zi i)), none]) (S' := [.int (zi i), .ref c49]) rfl ?_
        have hl50 : 257 ≤ h45.2.2.2.1 c49 ∧ h45.2.2.2.1 c49 ≤ 257 := gJ.rowl (G := gGG) sh45.1 tc49 rfl
        refine gs_ald rfl (by decide) sh45.1 tc49 rfl rfl rfl (by decide) (fun _ => rfl) (by omega) (by omega) (fun z51 ez51 az51 bz51 => ?_)
        have hf52 := gRn.at (i := i) (z := z51) lp44k3 tc49 ez51 (by omega) (by omega) (by omega)
        have hnw := eNx_w lp44k4 (by omega) (by omega) hf52
        have hnx := eNx_at (u := u) (n := n) (i := i) (z := z51) (by omega) hf52
        refine gz_s 2 (pc' := 65) (L' := [some (.ref x), some (.int (zi a)), some (.int (zi b)), some (.int (zi zq1)), some (.int (zi (z9 + z13))), some (.int (zi i)), some (.int (zi z51))]) (S' := [.ref x]) rfl ?_
        refine gs_gtr rfl (by decide) rfl sh45.1 tx rfl rfl rfl (fun c53 ec53 tc53 => ?_)
        refine gz_s 1 (pc' := 70) (L' := [some (.ref x), some (.int (zi a)), some (.int (zi b)), some (.int (zi zq1)), some (.int (zi (z9 + z13))), some (.int (zi i)), some (.int (zi z51))]) (S' := [.int (zi z51), .ref c53]) rfl ?_
        have hl54 : 257 ≤ h45.2.2.2.1 c53 ∧ h45.2.2.2.1 c53 ≤ 257 := gJ.rowl (G := gGG) sh45.1 tc53 rfl
        refine gs_ald rfl (by decide) sh45.1 tc53 rfl rfl rfl (by decide) (fun _ => rfl) (by omega) (by omega) (fun z55 ez55 az55 bz55 => ?_)
        have hf56 := gRn.at (i := z51) (z := z55) lp44k9 tc53 ez55 (by omega) (by omega) (by omega)
        have hg57 : g (z51).toNat = z55 := (eJg_at (by omega) (by omega)).symm.trans hf56
        refine gz_s 1 (pc' := 72) (L' := [some (.ref x), some (.int (zi a)), some (.int (zi b)), some (.int (zi zq1)), some (.int (zi (z9 + z13))), some (.int (zi i)), some (.int (zi z51))]) (S' := [.int (zi a), .int (zi z55)]) rfl ?_
        by_cases hc58 : (z55 : Int) = a
        · refine gy_icT (pc' := 86) rfl (by decide) (by decide) (by omega) (by omega) hc58 ?_
          refine gz_s 1 (pc' := 87) (L' := [some (.ref x), some (.int (zi a)), some (.int (zi b)), some (.int (zi zq1)), some (.int (zi (z9 + z13))), some (.int (zi i)), some (.int (zi z51))]) (S' := [.ref x]) rfl ?_
          refine gs_gtk rfl (by decide) rfl sh45.1 tx rfl rfl ec53 ?_
          refine gz_s 2 (pc' := 93) (L' := [some (.ref x), some (.int (zi a)), some (.int (zi b)), some (.int (zi zq1)), some (.int (zi (z9 + z13))), some (.int (zi i)), some (.int (zi z51))]) (S' := [.int (zi zq1), .int (zi z51), .ref c53]) rfl ?_
          have hl59 : 257 ≤ h45.2.2.2.1 c53 ∧ h45.2.2.2.1 c53 ≤ 257 := gJ.rowl (G := gGG) sh45.1 tc53 rfl
          refine gs_ast rfl (by decide) sh45 tc53 rfl rfl rfl (by decide) (fun _ => rfl) (by omega) (by omega) (fun _ => (by decide : (98999 : Nat) ∈ ([96999, 97999, 98999] : List Nat))) (by omega) (by omega) (fun h60 sh60 eh60 fh60 => ?_)
          have pr61 := gRn.pt fh60 tc53 (by decide) lp44k2
          have pr62 := gRn.pt fh60 tc53 (by decide) lp44k3
          have pr63 := gEl.pt fh60 tc53 (by decide) lp44k8
          have pr64 := gRn.put (i := z51) (z := zq1) uq tc53 (by decide) fh60 eh60 (by omega) (by omega) lp44k9
          have pr65 := gRn.pt fh60 tc53 (by decide) lp44k10
          have s66 := (fh60 x 8 (fun q => absurd (((tx).symm.trans (congrArg ty q.1)).trans tc53) (by decide))).trans lp44k0
          have s67 := (fh60 x 5 (fun q => absurd (((tx).symm.trans (congrArg ty q.1)).trans tc53) (by decide))).trans lp44k1
          have s68 := (fh60 x 7 (fun q => absurd (((tx).symm.trans (congrArg ty q.1)).trans tc53) (by decide))).trans ec49
          have s69 := (fh60 x 6 (fun q => absurd (((tx).symm.trans (congrArg ty q.1)).trans tc53) (by decide))).trans ec53
          have pr70 := gEl.set (i := z51) (z := zq1) uq tc53 (by decide) eh60 (by omega) (by omega)
          refine gz_s 1 (pc' := 95) (L' := [some (.ref x), some (.int (zi a)), some (.int (zi b)), some (.int (zi zq1)), some (.int (zi (z9 + z13))), some (.int (zi i)), some (.int (zi z51))]) (S' := [.ref x]) rfl ?_
          refine gs_gtr rfl (by decide) rfl sh60.1 tx rfl rfl rfl (fun c71 ec71 tc71 => ?_)
          refine gz_s 2 (pc' := 101) (L' := [some (.ref x), some (.int (zi a)), some (.int (zi b)), some (.int (zi zq1)), some (.int (zi (z9 + z13))), some (.int (zi i)), some (.int (zi z51))]) (S' := [.int (zi z51), .ref c71, .int (zi z51), .ref c71]) rfl ?_
          have hl72 : 257 ≤ h60.2.2.2.1 c71 ∧ h60.2.2.2.1 c71 ≤ 257 := gJ.rowl (G := gGG) sh60.1 tc71 rfl
          refine gs_ald rfl (by decide) sh60.1 tc71 rfl rfl rfl (by decide) (fun _ => rfl) (by omega) (by omega) (fun z73 ez73 az73 bz73 => ?_)
          have hf74 := gRn.at (i := z51) (z := z73) pr65 tc71 ez73 (by omega) (by omega) (by omega)
          have hl1 : l (z51).toNat = z73 := (eJl_at (by omega) (by omega)).symm.trans hf74
          have hlb := lp44k7 (z51).toNat (by omega)
          rw [hl1] at hlb
          refine gy_s 2 (pc' := 104) (L' := [some (.ref x), some (.int (zi a)), some (.int (zi b)), some (.int (zi zq1)), some (.int (zi (z9 + z13))), some (.int (zi i)), some (.int (zi z51))]) (S' := [.int ((zi z73) + (zi 1)), .int (zi z51), .ref c71]) (L2 := [some (.ref x), some (.int (zi a)), some (.int (zi b)), some (.int (zi zq1)), some (.int (zi (z9 + z13))), some (.int (zi i)), some (.int (zi z51))]) (S2 := [.int (zi (z73 + 1)), .int (zi z51), .ref c71]) rfl (by simp only [zi_add, zi_sub, zi_mul, zi_neg, zi_and1, zi_and7, zi_and15, zi_and31, zi_and255]) (by simp only [zi_add, zi_sub, zi_mul, zi_neg, zi_and1, zi_and7, zi_and15, zi_and31, zi_and255]) ?_
          have hl75 : 257 ≤ h60.2.2.2.1 c71 ∧ h60.2.2.2.1 c71 ≤ 257 := gJ.rowl (G := gGG) sh60.1 tc71 rfl
          refine gs_ast rfl (by decide) sh60 tc71 rfl rfl rfl (by decide) (fun _ => rfl) (by omega) (by omega) (fun _ => (by decide : (96999 : Nat) ∈ ([96999, 97999, 98999] : List Nat))) (by omega) (by omega) (fun h76 sh76 eh76 fh76 => ?_)
          have pr77 := gRn.pt fh76 tc71 (by decide) pr61
          have pr78 := gRn.pt fh76 tc71 (by decide) pr62
          have pr79 := gEl.pt fh76 tc71 (by decide) pr63
          have pr80 := gRn.pt fh76 tc71 (by decide) pr64
          have pr81 := gRn.put (i := z51) (z := z73 + 1) uq tc71 (by decide) fh76 eh76 (by omega) (by omega) pr65
          have pr82 := gEl.pt fh76 tc71 (by decide) pr70
          have s83 := (fh76 x 8 (fun q => absurd (((tx).symm.trans (congrArg ty q.1)).trans tc71) (by decide))).trans s66
          have s84 := (fh76 x 5 (fun q => absurd (((tx).symm.trans (congrArg ty q.1)).trans tc71) (by decide))).trans s67
          have s85 := (fh76 x 7 (fun q => absurd (((tx).symm.trans (congrArg ty q.1)).trans tc71) (by decide))).trans s68
          have s86 := (fh76 x 6 (fun q => absurd (((tx).symm.trans (congrArg ty q.1)).trans tc71) (by decide))).trans s69
          have s87 := (fh76 x 3 (fun q => absurd (((tx).symm.trans (congrArg ty q.1)).trans tc71) (by decide))).trans ec71
          have pr88 := gEl.set (i := z51) (z := z73 + 1) uq tc71 (by decide) eh76 (by omega) (by omega)
          have hrw89 : gRn 257 ty 98 (eJg a b g (eNx u n (i + 1))) h76 := gRn.cg (eJg_y (z := z51) lp44k4 lp44k5 (by omega) (by omega) hf52 (by omega) (by omega)) pr80
          have hrw90 : gRn 257 ty 96 (eJl a b g l (eNx u n (i + 1))) h76 := gRn.cg (eJl_y (z := z51) lp44k4 lp44k5 (by omega) (by omega) hf52 (by omega) (by omega)) pr81
          refine gy_s 2 (pc' := 46) (L' := [some (.ref x), some (.int (zi a)), some (.int (zi b)), some (.int (zi zq1)), some (.int (zi (z9 + z13))), some (.int ((zi i) + zi 1)), some (.int (zi z51))]) (S' := []) (L2 := [some (.ref x), some (.int (zi a)), some (.int (zi b)), some (.int (zi zq1)), some (.int (zi (z9 + z13))), some (.int (zi (i + 1))), some (.int (zi z51))]) (S2 := []) rfl (by simp only [zi_add, zi_sub, zi_mul, zi_neg, zi_and1, zi_and7, zi_and15, zi_and31, zi_and255]) (by simp only [zi_add, zi_sub, zi_mul, zi_neg, zi_and1, zi_and7, zi_and15, zi_and31, zi_and255]) ?_
          exact gz_wk (ihlp44 h76 (i + 1) (by omega) sh76 (by omega) (by omega) s83 s84 pr77 pr78 lp44k4 lp44k5 lp44k6 lp44k7 pr79 hrw89 hrw90) (gLw.s (gLw.s (gLw.s (gLw.s (gLw.s (gLw.s (gLw.n gLw.z)))))))
        · refine gy_icF rfl (by decide) (by decide) (by omega) (by omega) hc58 ?_
          refine gz_s 1 (pc' := 76) (L' := [some (.ref x), some (.int (zi a)), some (.int (zi b)), some (.int (zi zq1)), some (.int (zi (z9 + z13))), some (.int (zi i)), some (.int (zi z51))]) (S' := [.ref x]) rfl ?_
          refine gs_gtk rfl (by decide) rfl sh45.1 tx rfl rfl ec53 ?_
          refine gz_s 1 (pc' := 81) (L' := [some (.ref x), some (.int (zi a)), some (.int (zi b)), some (.int (zi zq1)), some (.int (zi (z9 + z13))), some (.int (zi i)), some (.int (zi z51))]) (S' := [.int (zi z51), .ref c53]) rfl ?_
          have hl91 : 257 ≤ h45.2.2.2.1 c53 ∧ h45.2.2.2.1 c53 ≤ 257 := gJ.rowl (G := gGG) sh45.1 tc53 rfl
          refine gs_ald rfl (by decide) sh45.1 tc53 rfl rfl rfl (by decide) (fun _ => rfl) (by omega) (by omega) (fun z92 ez92 az92 bz92 => ?_)
          have hf93 := gRn.at (i := z51) (z := z92) lp44k9 tc53 ez92 (by omega) (by omega) (by omega)
          have hg94 : g (z51).toNat = z92 := (eJg_at (by omega) (by omega)).symm.trans hf93
          refine gz_s 1 (pc' := 83) (L' := [some (.ref x), some (.int (zi a)), some (.int (zi b)), some (.int (zi zq1)), some (.int (zi (z9 + z13))), some (.int (zi i)), some (.int (zi z51))]) (S' := [.int (zi b), .int (zi z92)]) rfl ?_
          by_cases hc95 : ¬ (z92 : Int) = b
          · refine gy_icT (pc' := 105) rfl (by decide) (by decide) (by omega) (by omega) hc95 ?_
            have hrw96 : gRn 257 ty 98 (eJg a b g (eNx u n (i + 1))) h45 := gRn.cg (eJg_n (z := z51) lp44k4 lp44k5 (by omega) (by omega) hf52 (by omega)) lp44k9
            have hrw97 : gRn 257 ty 96 (eJl a b g l (eNx u n (i + 1))) h45 := gRn.cg (eJl_n (z := z51) lp44k4 lp44k5 (by omega) (by omega) hf52 (by omega)) lp44k10
            refine gy_s 2 (pc' := 46) (L' := [some (.ref x), some (.int (zi a)), some (.int (zi b)), some (.int (zi zq1)), some (.int (zi (z9 + z13))), some (.int ((zi i) + zi 1)), some (.int (zi z51))]) (S' := []) (L2 := [some (.ref x), some (.int (zi a)), some (.int (zi b)), some (.int (zi zq1)), some (.int (zi (z9 + z13))), some (.int (zi (i + 1))), some (.int (zi z51))]) (S2 := []) rfl (by simp only [zi_add, zi_sub, zi_mul, zi_neg, zi_and1, zi_and7, zi_and15, zi_and31, zi_and255]) (by simp only [zi_add, zi_sub, zi_mul, zi_neg, zi_and1, zi_and7, zi_and15, zi_and31, zi_and255]) ?_
            exact gz_wk (ihlp44 h45 (i + 1) (by omega) sh45 (by omega) (by omega) lp44k0 lp44k1 lp44k2 lp44k3 lp44k4 lp44k5 lp44k6 lp44k7 lp44k8 hrw96 hrw97) (gLw.s (gLw.s (gLw.s (gLw.s (gLw.s (gLw.s (gLw.n gLw.z)))))))
          · refine gy_icF rfl (by decide) (by decide) (by omega) (by omega) hc95 ?_
            refine gz_s 1 (pc' := 87) (L' := [some (.ref x), some (.int (zi a)), some (.int (zi b)), some (.int (zi zq1)), some (.int (zi (z9 + z13))), some (.int (zi i)), some (.int (zi z51))]) (S' := [.ref x]) rfl ?_
            refine gs_gtk rfl (by decide) rfl sh45.1 tx rfl rfl ec53 ?_
            refine gz_s 2 (pc' := 93) (L' := [some (.ref x), some (.int (zi a)), some (.int (zi b)), some (.int (zi zq1)), some (.int (zi (z9 + z13))), some (.int (zi i)), some (.int (zi z51))]) (S' := [.int (zi zq1), .int (zi z51), .ref c53]) rfl ?_
            have hl98 : 257 ≤ h45.2.2.2.1 c53 ∧ h45.2.2.2.1 c53 ≤ 257 := gJ.rowl (G := gGG) sh45.1 tc53 rfl
            refine gs_ast rfl (by decide) sh45 tc53 rfl rfl rfl (by decide) (fun _ => rfl) (by omega) (by omega) (fun _ => (by decide : (98999 : Nat) ∈ ([96999, 97999, 98999] : List Nat))) (by omega) (by omega) (fun h99 sh99 eh99 fh99 => ?_)
            have pr100 := gRn.pt fh99 tc53 (by decide) lp44k2
            have pr101 := gRn.pt fh99 tc53 (by decide) lp44k3
            have pr102 := gEl.pt fh99 tc53 (by decide) lp44k8
            have pr103 := gRn.put (i := z51) (z := zq1) uq tc53 (by decide) fh99 eh99 (by omega) (by omega) lp44k9
            have pr104 := gRn.pt fh99 tc53 (by decide) lp44k10
            have s105 := (fh99 x 8 (fun q => absurd (((tx).symm.trans (congrArg ty q.1)).trans tc53) (by decide))).trans lp44k0
            have s106 := (fh99 x 5 (fun q => absurd (((tx).symm.trans (congrArg ty q.1)).trans tc53) (by decide))).trans lp44k1
            have s107 := (fh99 x 7 (fun q => absurd (((tx).symm.trans (congrArg ty q.1)).trans tc53) (by decide))).trans ec49
            have s108 := (fh99 x 6 (fun q => absurd (((tx).symm.trans (congrArg ty q.1)).trans tc53) (by decide))).trans ec53
            have pr109 := gEl.set (i := z51) (z := zq1) uq tc53 (by decide) eh99 (by omega) (by omega)
            refine gz_s 1 (pc' := 95) (L' := [some (.ref x), some (.int (zi a)), some (.int (zi b)), some (.int (zi zq1)), some (.int (zi (z9 + z13))), some (.int (zi i)), some (.int (zi z51))]) (S' := [.ref x]) rfl ?_
            refine gs_gtr rfl (by decide) rfl sh99.1 tx rfl rfl rfl (fun c110 ec110 tc110 => ?_)
            refine gz_s 2 (pc' := 101) (L' := [some (.ref x), some (.int (zi a)), some (.int (zi b)), some (.int (zi zq1)), some (.int (zi (z9 + z13))), some (.int (zi i)), some (.int (zi z51))]) (S' := [.int (zi z51), .ref c110, .int (zi z51), .ref c110]) rfl ?_
            have hl111 : 257 ≤ h99.2.2.2.1 c110 ∧ h99.2.2.2.1 c110 ≤ 257 := gJ.rowl (G := gGG) sh99.1 tc110 rfl
            refine gs_ald rfl (by decide) sh99.1 tc110 rfl rfl rfl (by decide) (fun _ => rfl) (by omega) (by omega) (fun z112 ez112 az112 bz112 => ?_)
            have hf113 := gRn.at (i := z51) (z := z112) pr104 tc110 ez112 (by omega) (by omega) (by omega)
            have hl1 : l (z51).toNat = z112 := (eJl_at (by omega) (by omega)).symm.trans hf113
            have hlb := lp44k7 (z51).toNat (by omega)
            rw [hl1] at hlb
            refine gy_s 2 (pc' := 104) (L' := [some (.ref x), some (.int (zi a)), some (.int (zi b)), some (.int (zi zq1)), some (.int (zi (z9 + z13))), some (.int (zi i)), some (.int (zi z51))]) (S' := [.int ((zi z112) + (zi 1)), .int (zi z51), .ref c110]) (L2 := [some (.ref x), some (.int (zi a)), some (.int (zi b)), some (.int (zi zq1)), some (.int (zi (z9 + z13))), some (.int (zi i)), some (.int (zi z51))]) (S2 := [.int (zi (z112 + 1)), .int (zi z51), .ref c110]) rfl (by simp only [zi_add, zi_sub, zi_mul, zi_neg, zi_and1, zi_and7, zi_and15, zi_and31, zi_and255]) (by simp only [zi_add, zi_sub, zi_mul, zi_neg, zi_and1, zi_and7, zi_and15, zi_and31, zi_and255]) ?_
            have hl114 : 257 ≤ h99.2.2.2.1 c110 ∧ h99.2.2.2.1 c110 ≤ 257 := gJ.rowl (G := gGG) sh99.1 tc110 rfl
            refine gs_ast rfl (by decide) sh99 tc110 rfl rfl rfl (by decide) (fun _ => rfl) (by omega) (by omega) (fun _ => (by decide : (96999 : Nat) ∈ ([96999, 97999, 98999] : List Nat))) (by omega) (by omega) (fun h115 sh115 eh115 fh115 => ?_)
            have pr116 := gRn.pt fh115 tc110 (by decide) pr100
            have pr117 := gRn.pt fh115 tc110 (by decide) pr101
            have pr118 := gEl.pt fh115 tc110 (by decide) pr102
            have pr119 := gRn.pt fh115 tc110 (by decide) pr103
            have pr120 := gRn.put (i := z51) (z := z112 + 1) uq tc110 (by decide) fh115 eh115 (by omega) (by omega) pr104
            have pr121 := gEl.pt fh115 tc110 (by decide) pr109
            have s122 := (fh115 x 8 (fun q => absurd (((tx).symm.trans (congrArg ty q.1)).trans tc110) (by decide))).trans s105
            have s123 := (fh115 x 5 (fun q => absurd (((tx).symm.trans (congrArg ty q.1)).trans tc110) (by decide))).trans s106
            have s124 := (fh115 x 7 (fun q => absurd (((tx).symm.trans (congrArg ty q.1)).trans tc110) (by decide))).trans s107
            have s125 := (fh115 x 6 (fun q => absurd (((tx).symm.trans (congrArg ty q.1)).trans tc110) (by decide))).trans s108
            have s126 := (fh115 x 3 (fun q => absurd (((tx).symm.trans (congrArg ty q.1)).trans tc110) (by decide))).trans ec110
            have pr127 := gEl.set (i := z51) (z := z112 + 1) uq tc110 (by decide) eh115 (by omega) (by omega)
            have hrw128 : gRn 257 ty 98 (eJg a b g (eNx u n (i + 1))) h115 := gRn.cg (eJg_y (z := z51) lp44k4 lp44k5 (by omega) (by omega) hf52 (by omega) (by omega)) pr119
            have hrw129 : gRn 257 ty 96 (eJl a b g l (eNx u n (i + 1))) h115 := gRn.cg (eJl_y (z := z51) lp44k4 lp44k5 (by omega) (by omega) hf52 (by omega) (by omega)) pr120
            refine gy_s 2 (pc' := 46) (L' := [some (.ref x), some (.int (zi a)), some (.int (zi b)), some (.int (zi zq1)), some (.int (zi (z9 + z13))), some (.int ((zi i) + zi 1)), some (.int (zi z51))]) (S' := []) (L2 := [some (.ref x), some (.int (zi a)), some (.int (zi b)), some (.int (zi zq1)), some (.int (zi (z9 + z13))), some (.int (zi (i + 1))), some (.int (zi z51))]) (S2 := []) rfl (by simp only [zi_add, zi_sub, zi_mul, zi_neg, zi_and1, zi_and7, zi_and15, zi_and31, zi_and255]) (by simp only [zi_add, zi_sub, zi_mul, zi_neg, zi_and1, zi_and7, zi_and15, zi_and31, zi_and255]) ?_
            exact gz_wk (ihlp44 h115 (i + 1) (by omega) sh115 (by omega) (by omega) s122 s123 pr116 pr117 lp44k4 lp44k5 lp44k6 lp44k7 pr118 hrw128 hrw129) (gLw.s (gLw.s (gLw.s (gLw.s (gLw.s (gLw.s (gLw.n gLw.z)))))))
  exact gz_wk (lp44 _ h35 0 (Nat.lt_succ_self _) sh35 (by omega) (by omega) s40 s41 hrw43 pr39 hyus hyhu hywm hylm pr42 (gRn.cg (eJ_0 (l := l) hyus hyhu).1 pr37) (gRn.cg (eJ_0 (l := l) hyus hyhu).2 pr38)) (gLw.s (gLw.s (gLw.s (gLw.s (gLw.s (gLw.s (gLw.n gLw.z)))))))
set_option maxRecDepth 20000 in
set_option maxHeartbeats 4000000 in
theorem cw_Suited0_orderCodes (d : Nat) {ty : Nat → Nat} {h : gH} (hJ : gJ rT 1027 ty h) (x : Nat) (tx : ty x = 91) (n : Int) (en : h.2.2.2.2 x 8 = .int (zi n)) (rn : 0 ≤ n ∧ n ≤ 257) (L u w0 : Nat → Int) (uq : gUq ty) (hyf96 : gRn 257 ty 96 L h) (hyf99 : gRn 257 ty 99 u h) (hyus : eUs w0 u n) (hylz : ∀ j9 : Nat, j9 < 257 → ¬ 0 < w0 j9 → L j9 = 0) (hyl16 : ∀ j9 : Nat, j9 < 257 → 0 ≤ L j9 ∧ L j9 ≤ 16) : gz gPP gGG gcn (d + 0) gt125 0 (gent [.ref x] 5) [] h (fun q _ => gSs rT 1027 ty [91004, 93999, 94999, 95999] h q.2.2 ∧ ∃ t1 : Int, gfin gt125 q.1 q.2.1 = some none ∧ q.2.2.2.2.2.2 x 4 = .int (zi t1) ∧ 0 ≤ t1 ∧ t1 ≤ 256 ∧ (gOd ty 93 94 95 L t1 q.2.2)) := by
  have hS : gSs rT 1027 ty [91004, 93999, 94999, 95999] h h := gSs.rf hJ
  refine gz_s 2 (pc' := 2) (L' := [some (.ref x), none, none, none, none]) (S' := [.int (zi 0), .ref x]) rfl ?_
  refine gs_put rfl (by decide) rfl hS tx rfl rfl rfl rfl (Or.inl rfl) (by decide) (by omega) (by omega) (fun h1 sh1 eh1 fh1 => ?_)
  have pr2 := gRn.pt fh1 tx (by decide) hyf96
  have pr3 := gRn.pt fh1 tx (by decide) hyf99
  have s4 := (fh1 x 8 (fun q => absurd q.2 (by decide))).trans en
  refine gz_s 4 (pc' := 9) (L' := [some (.ref x), some (.int (zi 0)), some (.int (zi 1)), none, none]) (S' := []) rfl ?_
  obtain ⟨c6, ec6, tc6⟩ := gJ.ref (k := 0) (G := gGG) sh1.1 tx rfl rfl rfl
  obtain ⟨c7, ec7, tc7⟩ := gJ.ref (k := 1) (G := gGG) sh1.1 tx rfl rfl rfl
  obtain ⟨c8, ec8, tc8⟩ := gJ.ref (k := 2) (G := gGG) sh1.1 tx rfl rfl rfl
  have hoo9 : gOo ty 93 94 95 L 1 0 h1 := ⟨_, _, _, gRn.mk uq tc6 (by decide) (fun _ => rfl), gRn.mk uq tc7 (by decide) (fun _ => rfl), gRn.mk uq tc8 (by decide) (fun _ => rfl), fun l h1 h2 => absurd h2 (by omega), ekO.zero, fun s hs h0 h1 => absurd h1 (by omega)⟩
  have lp5 : ∀ (fu : Nat) (h10 : gH) (nx : Int) (ln : Int) (tv : Int), (18 - ln).toNat < fu → gSs rT 1027 ty [91004, 93999, 94999, 95999] h h10 → (0 ≤ nx ∧ nx ≤ 67109376) → (1 ≤ ln ∧ ln ≤ 17) → (0 ≤ tv ∧ tv ≤ 256) → (nx = ekF L ln.toNat) → h10.2.2.2.2 x 8 = .int (zi n) → h10.2.2.2.2 x 4 = .int (zi tv) → gRn 257 ty 96 L h10 → gRn 257 ty 99 u h10 → eUs w0 u n → (∀ j9 : Nat, j9 < 257 → ¬ 0 < w0 j9 → L j9 = 0) → (∀ j9 : Nat, j9 < 257 → 0 ≤ L j9 ∧ L j9 ≤ 16) → gOo ty 93 94 95 L ln tv h10 → gz gPP gGG gcn (d + 0) gt125 9 [some (.ref x), some (.int (zi nx)), some (.int (zi ln)), none, none] [] h10 (fun q _ => gSs rT 1027 ty [91004, 93999, 94999, 95999] h q.2.2 ∧ ∃ t1 : Int, gfin gt125 q.1 q.2.1 = some none ∧ q.2.2.2.2.2.2 x 4 = .int (zi t1) ∧ 0 ≤ t1 ∧ t1 ≤ 256 ∧ (gOd ty 93 94 95 L t1 q.2.2)) := by
    intro fu
    induction fu with
    | zero => intro h10 nx ln tv hm; exact absurd hm (Nat.not_lt_zero _)
    | succ fu ihlp5 =>
      intro h10 nx ln tv lp5m sh10 lp5f0 lp5f1 lp5f2 lp5f3 lp5k0 lp5k1 lp5k2 lp5k3 lp5k4 lp5k5 lp5k6 lp5k7
      refine gz_s 2 (pc' := 12) (L' := [some (.ref x), some (.int (zi nx)), some (.int (zi ln)), none, none]) (S' := [.int (zi 16), .int (zi ln)]) rfl ?_
      by_cases hc11 : (16 : Int) < ln
      · refine gy_icT (pc' := 117) rfl (by decide) (by decide) (by omega) (by omega) hc11 ?_
        have hod12 : gOd ty 93 94 95 L tv h10 := by
          have e9 := lp5k7
          rw [(by omega : ln = 17)] at e9
          exact e9.fin lp5k6
        exact gz_end (I := .return_) (len := 1) rfl (Or.inl rfl) ⟨sh10, tv, rfl, lp5k1, (by omega), (by omega), hod12⟩
      · refine gy_icF rfl (by decide) (by decide) (by omega) (by omega) hc11 ?_
        obtain ⟨fc9, fo9, fd9, x1, x2, x3, x4, x5, x6⟩ := lp5k7
        refine gz_s 1 (pc' := 16) (L' := [some (.ref x), some (.int (zi nx)), some (.int (zi ln)), none, none]) (S' := [.ref x]) rfl ?_
        refine gs_gtr rfl (by decide) rfl sh10.1 tx rfl rfl rfl (fun c13 ec13 tc13 => ?_)
        have ee14 : c6 = c13 := uq c6 c13 (tc6.trans tc13.symm) (by rw [tc6]; decide) (by rw [tc6]; decide)
        subst ee14
        refine gz_s 2 (pc' := 21) (L' := [some (.ref x), some (.int (zi nx)), some (.int (zi ln)), none, none]) (S' := [.int (zi 0), .int (zi ln), .ref c6]) rfl ?_
        have hl15 : 17 ≤ h10.2.2.2.1 c6 ∧ h10.2.2.2.1 c6 ≤ 17 := gJ.rowl (G := gGG) sh10.1 tc6 rfl
        refine gs_ast rfl (by decide) sh10 tc6 rfl rfl rfl (by decide) (fun _ => rfl) (by omega) (by omega) (fun _ => (by decide : (93999 : Nat) ∈ ([91004, 93999, 94999, 95999] : List Nat))) (by omega) (by omega) (fun h16 sh16 eh16 fh16 => ?_)
        have pr17 := gRn.pt fh16 tc6 (by decide) lp5k2
        have pr18 := gRn.pt fh16 tc6 (by decide) lp5k3
        have pr19 := gRn.put (i := ln) (z := 0) uq tc6 (by decide) fh16 eh16 (by omega) (by omega) x1
        have pr20 := gRn.pt fh16 tc6 (by decide) x2
        have pr21 := gRn.pt fh16 tc6 (by decide) x3
        have s22 := (fh16 x 8 (fun q => absurd (((tx).symm.trans (congrArg ty q.1)).trans tc6) (by decide))).trans lp5k0
        have s23 := (fh16 x 4 (fun q => absurd (((tx).symm.trans (congrArg ty q.1)).trans tc6) (by decide))).trans lp5k1
        have s24 := (fh16 x 0 (fun q => absurd (((tx).symm.trans (congrArg ty q.1)).trans tc6) (by decide))).trans ec13
        have pr25 := gEl.set (i := ln) (z := 0) uq tc6 (by decide) eh16 (by omega) (by omega)
        refine gz_s 2 (pc' := 24) (L' := [some (.ref x), some (.int (zi nx)), some (.int (zi ln)), some (.int (zi 0)), none]) (S' := []) rfl ?_
        have hoi27 : gOi ty 93 94 95 L ln (eNy u n 0) tv h16 := gOo.put (by omega) pr19 pr20 pr21 x4 x5 x6 lp5k4 lp5k5
        have lp26 : ∀ (fu : Nat) (h28 : gH) (nx2 : Int) (i : Int) (tv2 : Int), (258 - i).toNat < fu → gSs rT 1027 ty [91004, 93999, 94999, 95999] h h28 → (0 ≤ nx2 ∧ nx2 ≤ 67109376) → (0 ≤ i ∧ i ≤ 257) → (0 ≤ tv2 ∧ tv2 ≤ 256) → (nx2 = ekF L ln.toNat + ekN L ln (eNy u n i).toNat) → (i ≤ n) → h28.2.2.2.2 x 8 = .int (zi n) → h28.2.2.2.2 x 0 = .ref c6 → h28.2.2.2.2 x 4 = .int (zi tv2) → gRn 257 ty 96 L h28 → gRn 257 ty 99 u h28 → eUs w0 u n → (∀ j9 : Nat, j9 < 257 → ¬ 0 < w0 j9 → L j9 = 0) → (∀ j9 : Nat, j9 < 257 → 0 ≤ L j9 ∧ L j9 ≤ 16) → gOi ty 93 94 95 L ln (eNy u n i) tv2 h28 → gz gPP gGG gcn (d + 0) gt125 24 [some (.ref x), some (.int (zi nx2)), some (.int (zi ln)), some (.int (zi i)), none] [] h28 (fun q _ => gSs rT 1027 ty [91004, 93999, 94999, 95999] h q.2.2 ∧ ∃ t1 : Int, gfin gt125 q.1 q.2.1 = some none ∧ q.2.2.2.2.2.2 x 4 = .int (zi t1) ∧ 0 ≤ t1 ∧ t1 ≤ 256 ∧ (gOd ty 93 94 95 L t1 q.2.2)) := by
          intro fu
          induction fu with
          | zero => intro h28 nx2 i tv2 hm; exact absurd hm (Nat.not_lt_zero _)
          | succ fu ihlp26 =>
            intro h28 nx2 i tv2 lp26m sh28 lp26f0 lp26f1 lp26f2 lp26f3 lp26f4 lp26k0 lp26k1 lp26k2 lp26k3 lp26k4 lp26k5 lp26k6 lp26k7 lp26k8
            refine gz_s 2 (pc' := 26) (L' := [some (.ref x), some (.int (zi nx2)), some (.int (zi ln)), some (.int (zi i)), none]) (S' := [.ref x, .int (zi i)]) rfl ?_
            refine gs_gtk rfl (by decide) rfl sh28.1 tx rfl rfl lp26k0 ?_
            by_cases hc29 : (n : Int) ≤ i
            · refine gy_icT (pc' := 107) rfl (by decide) (by decide) (by omega) (by omega) hc29 ?_
              have hn9 : eNy u n i = 256 := eNy_n (by omega)
              have hoi9 := lp26k8
              rw [hn9] at hoi9
              obtain ⟨hoo30, hoo30n⟩ := gOi.next (nx := nx2) (by omega) (by rw [← hn9]; omega) hoi9
              have hkf := ekF_b L (l := ln.toNat) (by omega)
              have hkg := ekF_b L (l := (ln + 1).toNat) (by omega)
              refine gy_s 6 (pc' := 9) (L' := [some (.ref x), some (.int ((zi 2) * (zi nx2))), some (.int ((zi ln) + zi 1)), some (.int (zi i)), none]) (S' := []) (L2 := [some (.ref x), some (.int (zi (2 * nx2))), some (.int (zi (ln + 1))), some (.int (zi i)), none]) (S2 := []) rfl (by simp only [zi_add, zi_sub, zi_mul, zi_neg, zi_and1, zi_and7, zi_and15, zi_and31, zi_and255]) (by simp only [zi_add, zi_sub, zi_mul, zi_neg, zi_and1, zi_and7, zi_and15, zi_and31, zi_and255]) ?_
              exact gz_wk (ihlp5 h28 (2 * nx2) (ln + 1) tv2 (by omega) sh28 (by omega) (by omega) (by omega) (by omega) lp26k0 lp26k2 lp26k3 lp26k4 lp26k5 lp26k6 lp26k7 hoo30) (gLw.s (gLw.s (gLw.s (gLw.n (gLw.n gLw.z)))))
            · refine gy_icF rfl (by decide) (by decide) (by omega) (by omega) hc29 ?_
              refine gz_s 1 (pc' := 33) (L' := [some (.ref x), some (.int (zi nx2)), some (.int (zi ln)), some (.int (zi i)), none]) (S' := [.ref x]) rfl ?_
              refine gs_gtr rfl (by decide) rfl sh28.1 tx rfl rfl rfl (fun c31 ec31 tc31 => ?_)
              refine gz_s 1 (pc' := 37) (L' := [some (.ref x), some (.int (zi nx2)), some (.int (zi ln)), some (.int (zi i)), none]) (S' := [.int (zi i), .ref c31]) rfl ?_
              have hl32 : 257 ≤ h28.2.2.2.1 c31 ∧ h28.2.2.2.1 c31 ≤ 257 := gJ.rowl (G := gGG) sh28.1 tc31 rfl
              refine gs_ald rfl (by decide) sh28.1 tc31 rfl rfl rfl (by decide) (fun _ => rfl) (by omega) (by omega) (fun z33 ez33 az33 bz33 => ?_)
              have hf34 := gRn.at (i := i) (z := z33) lp26k4 tc31 ez33 (by omega) (by omega) (by omega)
              have hnw := eNx_w lp26k5 (by omega) (by omega) hf34
              refine gz_s 3 (pc' := 45) (L' := [some (.ref x), some (.int (zi nx2)), some (.int (zi ln)), some (.int (zi i)), some (.int (zi z33))]) (S' := [.int (zi 256), .int (zi z33)]) rfl ?_
              by_cases hc35 : (256 : Int) ≤ z33
              · refine gy_icT (pc' := 101) rfl (by decide) (by decide) (by omega) (by omega) hc35 ?_
                obtain ⟨hoi36, hoi36n⟩ := gOi.pass (z := z33) (nx := nx2) lp26k5 lp26k6 (by omega) (by omega) (by omega) hf34 (by omega) (by omega) lp26k8
                have hkc := ekN_b L ln (eNy u n (i + 1)).toNat
                have hkf := ekF_b L (l := ln.toNat) (by omega)
                refine gy_s 2 (pc' := 24) (L' := [some (.ref x), some (.int (zi nx2)), some (.int (zi ln)), some (.int ((zi i) + zi 1)), some (.int (zi z33))]) (S' := []) (L2 := [some (.ref x), some (.int (zi nx2)), some (.int (zi ln)), some (.int (zi (i + 1))), some (.int (zi z33))]) (S2 := []) rfl (by simp only [zi_add, zi_sub, zi_mul, zi_neg, zi_and1, zi_and7, zi_and15, zi_and31, zi_and255]) (by simp only [zi_add, zi_sub, zi_mul, zi_neg, zi_and1, zi_and7, zi_and15, zi_and31, zi_and255]) ?_
                exact gz_wk (ihlp26 h28 nx2 (i + 1) tv2 (by omega) sh28 (by omega) (by omega) (by omega) (by omega) (by omega) lp26k0 lp26k1 lp26k2 lp26k3 lp26k4 lp26k5 lp26k6 lp26k7 hoi36) (gLw.s (gLw.s (gLw.s (gLw.s (gLw.n gLw.z)))))
              · refine gy_icF rfl (by decide) (by decide) (by omega) (by omega) hc35 ?_
                refine gz_s 1 (pc' := 49) (L' := [some (.ref x), some (.int (zi nx2)), some (.int (zi ln)), some (.int (zi i)), some (.int (zi z33))]) (S' := [.ref x]) rfl ?_
                refine gs_gtr rfl (by decide) rfl sh28.1 tx rfl rfl rfl (fun c37 ec37 tc37 => ?_)
                refine gz_s 1 (pc' := 54) (L' := [some (.ref x), some (.int (zi nx2)), some (.int (zi ln)), some (.int (zi i)), some (.int (zi z33))]) (S' := [.int (zi z33), .ref c37]) rfl ?_
                have hl38 : 257 ≤ h28.2.2.2.1 c37 ∧ h28.2.2.2.1 c37 ≤ 257 := gJ.rowl (G := gGG) sh28.1 tc37 rfl
                refine gs_ald rfl (by decide) sh28.1 tc37 rfl rfl rfl (by decide) (fun _ => rfl) (by omega) (by omega) (fun z39 ez39 az39 bz39 => ?_)
                have hf40 := gRn.at (i := z33) (z := z39) lp26k3 tc37 ez39 (by omega) (by omega) (by omega)
                refine gz_s 1 (pc' := 56) (L' := [some (.ref x), some (.int (zi nx2)), some (.int (zi ln)), some (.int (zi i)), some (.int (zi z33))]) (S' := [.int (zi ln), .int (zi z39)]) rfl ?_
                by_cases hc41 : ¬ (z39 : Int) = ln
                · refine gy_icT (pc' := 101) rfl (by decide) (by decide) (by omega) (by omega) hc41 ?_
                  obtain ⟨hoi42, hoi42n⟩ := gOi.pass (z := z33) (nx := nx2) lp26k5 lp26k6 (by omega) (by omega) (by omega) hf34 (by have h9 := hf40; omega) (by omega) lp26k8
                  have hkc := ekN_b L ln (eNy u n (i + 1)).toNat
                  have hkf := ekF_b L (l := ln.toNat) (by omega)
                  refine gy_s 2 (pc' := 24) (L' := [some (.ref x), some (.int (zi nx2)), some (.int (zi ln)), some (.int ((zi i) + zi 1)), some (.int (zi z33))]) (S' := []) (L2 := [some (.ref x), some (.int (zi nx2)), some (.int (zi ln)), some (.int (zi (i + 1))), some (.int (zi z33))]) (S2 := []) rfl (by simp only [zi_add, zi_sub, zi_mul, zi_neg, zi_and1, zi_and7, zi_and15, zi_and31, zi_and255]) (by simp only [zi_add, zi_sub, zi_mul, zi_neg, zi_and1, zi_and7, zi_and15, zi_and31, zi_and255]) ?_
                  exact gz_wk (ihlp26 h28 nx2 (i + 1) tv2 (by omega) sh28 (by omega) (by omega) (by omega) (by omega) (by omega) lp26k0 lp26k1 lp26k2 lp26k3 lp26k4 lp26k5 lp26k6 lp26k7 hoi42) (gLw.s (gLw.s (gLw.s (gLw.s (gLw.n gLw.z)))))
                · refine gy_icF rfl (by decide) (by decide) (by omega) (by omega) hc41 ?_
                  obtain ⟨fc8, fo8, fd8, y1, y2, y3, y4, y5, y6, y7⟩ := lp26k8
                  have hkb := ekN_b L ln (eNy u n i).toNat
                  have hny := eNx_b (i := i) lp26k5 (by omega)
                  have hny2 : eNy u n i = if eNx u n i < 256 then eNx u n i else 256 := rfl
                  have hnx := eNx_at (u := u) (n := n) (i := i) (z := z33) (by omega) hf34
                  have htd := y6.1
                  have hny3 : (eNy u n i).toNat = (z33).toNat := by omega
                  rw [hny3] at htd
                  have htb := ekT_lt (L := L) (l := (ln - 1).toNat) (z := (z33).toNat) (by omega) (by have h9 := hf40; omega)
                  refine gz_s 1 (pc' := 60) (L' := [some (.ref x), some (.int (zi nx2)), some (.int (zi ln)), some (.int (zi i)), some (.int (zi z33))]) (S' := [.ref x]) rfl ?_
                  refine gs_gtk rfl (by decide) rfl sh28.1 tx rfl rfl lp26k1 ?_
                  refine gz_s 2 (pc' := 65) (L' := [some (.ref x), some (.int (zi nx2)), some (.int (zi ln)), some (.int (zi i)), some (.int (zi z33))]) (S' := [.int (zi ln), .ref c6, .int (zi ln), .ref c6]) rfl ?_
                  have hl43 : 17 ≤ h28.2.2.2.1 c6 ∧ h28.2.2.2.1 c6 ≤ 17 := gJ.rowl (G := gGG) sh28.1 tc6 rfl
                  refine gs_ald rfl (by decide) sh28.1 tc6 rfl rfl rfl (by decide) (fun _ => rfl) (by omega) (by omega) (fun z44 ez44 az44 bz44 => ?_)
                  have hf45 := gRn.at (i := ln) (z := z44) y1 tc6 ez44 (by omega) (by omega) (by omega)
                  refine gy_s 2 (pc' := 68) (L' := [some (.ref x), some (.int (zi nx2)), some (.int (zi ln)), some (.int (zi i)), some (.int (zi z33))]) (S' := [.int ((zi z44) + (zi 1)), .int (zi ln), .ref c6]) (L2 := [some (.ref x), some (.int (zi nx2)), some (.int (zi ln)), some (.int (zi i)), some (.int (zi z33))]) (S2 := [.int (zi (z44 + 1)), .int (zi ln), .ref c6]) rfl (by simp only [zi_add, zi_sub, zi_mul, zi_neg, zi_and1, zi_and7, zi_and15, zi_and31, zi_and255]) (by simp only [zi_add, zi_sub, zi_mul, zi_neg, zi_and1, zi_and7, zi_and15, zi_and31, zi_and255]) ?_
                  have hl46 : 17 ≤ h28.2.2.2.1 c6 ∧ h28.2.2.2.1 c6 ≤ 17 := gJ.rowl (G := gGG) sh28.1 tc6 rfl
                  refine gs_ast rfl (by decide) sh28 tc6 rfl rfl rfl (by decide) (fun _ => rfl) (by omega) (by omega) (fun _ => (by decide : (93999 : Nat) ∈ ([91004, 93999, 94999, 95999] : List Nat))) (by omega) (by omega) (fun h47 sh47 eh47 fh47 => ?_)
                  have pr48 := gRn.pt fh47 tc6 (by decide) lp26k3
                  have pr49 := gRn.pt fh47 tc6 (by decide) lp26k4
                  have pr50 := gRn.put (i := ln) (z := z44 + 1) uq tc6 (by decide) fh47 eh47 (by omega) (by omega) y1
                  have pr51 := gRn.pt fh47 tc6 (by decide) y2
                  have pr52 := gRn.pt fh47 tc6 (by decide) y3
                  have s53 := (fh47 x 8 (fun q => absurd (((tx).symm.trans (congrArg ty q.1)).trans tc6) (by decide))).trans lp26k0
                  have s54 := (fh47 x 0 (fun q => absurd (((tx).symm.trans (congrArg ty q.1)).trans tc6) (by decide))).trans lp26k1
                  have s55 := (fh47 x 4 (fun q => absurd (((tx).symm.trans (congrArg ty q.1)).trans tc6) (by decide))).trans lp26k2
                  have s56 := (fh47 x 7 (fun q => absurd (((tx).symm.trans (congrArg ty q.1)).trans tc6) (by decide))).trans ec31
                  have s57 := (fh47 x 3 (fun q => absurd (((tx).symm.trans (congrArg ty q.1)).trans tc6) (by decide))).trans ec37
                  have pr58 := gEl.set (i := ln) (z := z44 + 1) uq tc6 (by decide) eh47 (by omega) (by omega)
                  refine gz_s 1 (pc' := 70) (L' := [some (.ref x), some (.int (zi nx2)), some (.int (zi ln)), some (.int (zi i)), some (.int (zi z33))]) (S' := [.ref x]) rfl ?_
                  refine gs_gtr rfl (by decide) rfl sh47.1 tx rfl rfl rfl (fun c59 ec59 tc59 => ?_)
                  have ee60 : c7 = c59 := uq c7 c59 (tc7.trans tc59.symm) (by rw [tc7]; decide) (by rw [tc7]; decide)
                  subst ee60
                  refine gz_s 1 (pc' := 74) (L' := [some (.ref x), some (.int (zi nx2)), some (.int (zi ln)), some (.int (zi i)), some (.int (zi z33))]) (S' := [.ref x, .ref c7]) rfl ?_
                  refine gs_gtk rfl (by decide) rfl sh47.1 tx rfl rfl s55 ?_
                  refine gz_s 1 (pc' := 79) (L' := [some (.ref x), some (.int (zi nx2)), some (.int (zi ln)), some (.int (zi i)), some (.int (zi z33))]) (S' := [.int (zi z33), .int (zi tv2), .ref c7]) rfl ?_
                  have hl61 : 256 ≤ h47.2.2.2.1 c7 ∧ h47.2.2.2.1 c7 ≤ 256 := gJ.rowl (G := gGG) sh47.1 tc7 rfl
                  refine gs_ast rfl (by decide) sh47 tc7 rfl rfl rfl (by decide) (fun _ => rfl) (by omega) (by omega) (fun _ => (by decide : (94999 : Nat) ∈ ([91004, 93999, 94999, 95999] : List Nat))) (by omega) (by omega) (fun h62 sh62 eh62 fh62 => ?_)
                  have pr63 := gRn.pt fh62 tc7 (by decide) pr48
                  have pr64 := gRn.pt fh62 tc7 (by decide) pr49
                  have pr65 := gRn.pt fh62 tc7 (by decide) pr50
                  have pr66 := gRn.put (i := tv2) (z := z33) uq tc7 (by decide) fh62 eh62 (by omega) (by omega) pr51
                  have pr67 := gRn.pt fh62 tc7 (by decide) pr52
                  have pr68 := gEl.pt fh62 tc7 (by decide) pr58
                  have s69 := (fh62 x 8 (fun q => absurd (((tx).symm.trans (congrArg ty q.1)).trans tc7) (by decide))).trans s53
                  have s70 := (fh62 x 0 (fun q => absurd (((tx).symm.trans (congrArg ty q.1)).trans tc7) (by decide))).trans s54
                  have s71 := (fh62 x 4 (fun q => absurd (((tx).symm.trans (congrArg ty q.1)).trans tc7) (by decide))).trans s55
                  have s72 := (fh62 x 7 (fun q => absurd (((tx).symm.trans (congrArg ty q.1)).trans tc7) (by decide))).trans s56
                  have s73 := (fh62 x 3 (fun q => absurd (((tx).symm.trans (congrArg ty q.1)).trans tc7) (by decide))).trans s57
                  have s74 := (fh62 x 1 (fun q => absurd (((tx).symm.trans (congrArg ty q.1)).trans tc7) (by decide))).trans ec59
                  have pr75 := gEl.set (i := tv2) (z := z33) uq tc7 (by decide) eh62 (by omega) (by omega)
                  refine gz_s 2 (pc' := 82) (L' := [some (.ref x), some (.int (zi nx2)), some (.int (zi ln)), some (.int (zi i)), some (.int (zi z33))]) (S' := [.ref x, .ref x]) rfl ?_
                  refine gs_gtk rfl (by decide) rfl sh62.1 tx rfl rfl s71 ?_
                  refine gy_s 2 (pc' := 87) (L' := [some (.ref x), some (.int (zi nx2)), some (.int (zi ln)), some (.int (zi i)), some (.int (zi z33))]) (S' := [.int ((zi tv2) + (zi 1)), .ref x]) (L2 := [some (.ref x), some (.int (zi nx2)), some (.int (zi ln)), some (.int (zi i)), some (.int (zi z33))]) (S2 := [.int (zi (tv2 + 1)), .ref x]) rfl (by simp only [zi_add, zi_sub, zi_mul, zi_neg, zi_and1, zi_and7, zi_and15, zi_and31, zi_and255]) (by simp only [zi_add, zi_sub, zi_mul, zi_neg, zi_and1, zi_and7, zi_and15, zi_and31, zi_and255]) ?_
                  refine gs_put rfl (by decide) rfl sh62 tx rfl rfl rfl rfl (Or.inl rfl) (by decide) (by omega) (by omega) (fun h76 sh76 eh76 fh76 => ?_)
                  have pr77 := gRn.pt fh76 tx (by decide) pr63
                  have pr78 := gRn.pt fh76 tx (by decide) pr64
                  have pr79 := gRn.pt fh76 tx (by decide) pr65
                  have pr80 := gRn.pt fh76 tx (by decide) pr66
                  have pr81 := gRn.pt fh76 tx (by decide) pr67
                  have pr82 := gEl.pt fh76 tx (by decide) pr68
                  have pr83 := gEl.pt fh76 tx (by decide) pr75
                  have s84 := (fh76 x 8 (fun q => absurd q.2 (by decide))).trans s69
                  have s85 := (fh76 x 0 (fun q => absurd q.2 (by decide))).trans s70
                  have s86 := (fh76 x 7 (fun q => absurd q.2 (by decide))).trans s72
                  have s87 := (fh76 x 3 (fun q => absurd q.2 (by decide))).trans s73
                  have s88 := (fh76 x 1 (fun q => absurd q.2 (by decide))).trans s74
                  refine gz_s 1 (pc' := 91) (L' := [some (.ref x), some (.int (zi nx2)), some (.int (zi ln)), some (.int (zi i)), some (.int (zi z33))]) (S' := [.ref x]) rfl ?_
                  refine gs_gtr rfl (by decide) rfl sh76.1 tx rfl rfl rfl (fun c89 ec89 tc89 => ?_)
                  have ee90 : c8 = c89 := uq c8 c89 (tc8.trans tc89.symm) (by rw [tc8]; decide) (by rw [tc8]; decide)
                  subst ee90
                  refine gz_s 2 (pc' := 97) (L' := [some (.ref x), some (.int (zi nx2)), some (.int (zi ln)), some (.int (zi i)), some (.int (zi z33))]) (S' := [.int (zi nx2), .int (zi z33), .ref c8]) rfl ?_
                  have hl91 : 257 ≤ h76.2.2.2.1 c8 ∧ h76.2.2.2.1 c8 ≤ 257 := gJ.rowl (G := gGG) sh76.1 tc8 rfl
                  refine gs_ast rfl (by decide) sh76 tc8 rfl rfl rfl (by decide) (fun _ => rfl) (by omega) (by omega) (fun _ => (by decide : (95999 : Nat) ∈ ([91004, 93999, 94999, 95999] : List Nat))) (by omega) (by omega) (fun h92 sh92 eh92 fh92 => ?_)
                  have pr93 := gRn.pt fh92 tc8 (by decide) pr77
                  have pr94 := gRn.pt fh92 tc8 (by decide) pr78
                  have pr95 := gRn.pt fh92 tc8 (by decide) pr79
                  have pr96 := gRn.pt fh92 tc8 (by decide) pr80
                  have pr97 := gRn.put (i := z33) (z := nx2) uq tc8 (by decide) fh92 eh92 (by omega) (by omega) pr81
                  have pr98 := gEl.pt fh92 tc8 (by decide) pr82
                  have pr99 := gEl.pt fh92 tc8 (by decide) pr83
                  have s100 := (fh92 x 8 (fun q => absurd (((tx).symm.trans (congrArg ty q.1)).trans tc8) (by decide))).trans s84
                  have s101 := (fh92 x 0 (fun q => absurd (((tx).symm.trans (congrArg ty q.1)).trans tc8) (by decide))).trans s85
                  have s102 := (fh92 x 7 (fun q => absurd (((tx).symm.trans (congrArg ty q.1)).trans tc8) (by decide))).trans s86
                  have s103 := (fh92 x 3 (fun q => absurd (((tx).symm.trans (congrArg ty q.1)).trans tc8) (by decide))).trans s87
                  have s104 := (fh92 x 1 (fun q => absurd (((tx).symm.trans (congrArg ty q.1)).trans tc8) (by decide))).trans s88
                  have s105 := (fh92 x 4 (fun q => absurd (((tx).symm.trans (congrArg ty q.1)).trans tc8) (by decide))).trans eh76
                  have s106 := (fh92 x 2 (fun q => absurd (((tx).symm.trans (congrArg ty q.1)).trans tc8) (by decide))).trans ec89
                  have pr107 := gEl.set (i := z33) (z := nx2) uq tc8 (by decide) eh92 (by omega) (by omega)
                  refine gy_s 1 (pc' := 101) (L' := [some (.ref x), some (.int ((zi nx2) + zi 1)), some (.int (zi ln)), some (.int (zi i)), some (.int (zi z33))]) (S' := []) (L2 := [some (.ref x), some (.int (zi (nx2 + 1))), some (.int (zi ln)), some (.int (zi i)), some (.int (zi z33))]) (S2 := []) rfl (by simp only [zi_add, zi_sub, zi_mul, zi_neg, zi_and1, zi_and7, zi_and15, zi_and31, zi_and255]) (by simp only [zi_add, zi_sub, zi_mul, zi_neg, zi_and1, zi_and7, zi_and15, zi_and31, zi_and255]) ?_
                  obtain ⟨hoi108, hoi108n⟩ := gOi.take (z := z33) (nx := nx2) lp26k5 lp26k6 (by omega) (by omega) (by omega) hf34 (by omega) (by have h9 := hf40; omega) (by omega) hf45 pr95 pr96 pr97 y4 y5 y6 y7
                  have hkc := ekN_b L ln (eNy u n (i + 1)).toNat
                  have hkf := ekF_b L (l := ln.toNat) (by omega)
                  refine gy_s 2 (pc' := 24) (L' := [some (.ref x), some (.int (zi (nx2 + 1))), some (.int (zi ln)), some (.int ((zi i) + zi 1)), some (.int (zi z33))]) (S' := []) (L2 := [some (.ref x), some (.int (zi (nx2 + 1))), some (.int (zi ln)), some (.int (zi (i + 1))), some (.int (zi z33))]) (S2 := []) rfl (by simp only [zi_add, zi_sub, zi_mul, zi_neg, zi_and1, zi_and7, zi_and15, zi_and31, zi_and255]) (by simp only [zi_add, zi_sub, zi_mul, zi_neg, zi_and1, zi_and7, zi_and15, zi_and31, zi_and255]) ?_
                  exact gz_wk (ihlp26 h92 (nx2 + 1) (i + 1) (tv2 + 1) (by omega) sh92 (by omega) (by omega) (by omega) (by omega) (by omega) s100 s101 s105 pr93 pr94 lp26k5 lp26k6 lp26k7 hoi108) (gLw.s (gLw.s (gLw.s (gLw.s (gLw.n gLw.z)))))
        have hk9 : ekN L ln (eNy u n 0).toNat = 0 := ekN_up (a := 0) (by omega) (eNy_0 (L := L) lp5k4 lp5k5 (by omega)).2
        exact gz_wk (lp26 _ h16 nx 0 tv (Nat.lt_succ_self _) sh16 (by omega) (by omega) (by omega) (by omega) (by omega) s22 s24 s23 pr17 pr18 lp5k4 lp5k5 lp5k6 hoi27) (gLw.s (gLw.s (gLw.s (gLw.s (gLw.n gLw.z)))))
  have hkf1 : ekF L (1 : Int).toNat = 0 := rfl
  exact gz_wk (lp5 _ h1 0 1 0 (Nat.lt_succ_self _) sh1 (by omega) (by omega) (by omega) (by omega) s4 eh1 pr2 pr3 hyus hylz hyl16 hoo9) (gLw.s (gLw.s (gLw.s (gLw.n (gLw.n gLw.z)))))
set_option maxRecDepth 20000 in
set_option maxHeartbeats 4000000 in
theorem cw_Suited0_suit (d : Nat) {ty : Nat → Nat} {h : gH} (hJ : gJ rT 1027 ty h) (x : Nat) (tx : ty x = 91) (w0 : Nat → Int) (uq : gUq ty) (hyf97 : gRn 257 ty 97 w0 h) (hywb : ewB w0 1999) (hyw6 : 0 < w0 256) : gz gPP gGG gcn (d + 2) gt122 0 (gent [.ref x] 3) [] h (fun q _ => gSs rT 1027 ty [91004, 91008, 93999, 94999, 95999, 96999, 97999, 98999, 99999] h q.2.2 ∧ ∃ t1 : Int, gfin gt122 q.1 q.2.1 = some none ∧ q.2.2.2.2.2.2 x 4 = .int (zi t1) ∧ 0 ≤ t1 ∧ t1 ≤ 256 ∧ (gRn 257 ty 96 (ehN w0) q.2.2) ∧ (gOd ty 93 94 95 (ehN w0) t1 q.2.2)) := by
  have hS : gSs rT 1027 ty [91004, 91008, 93999, 94999, 95999, 96999, 97999, 98999, 99999] h h := gSs.rf hJ
  have hw5 : ∀ x : Nat, x < 257 → 0 ≤ w0 x := fun x _ => hywb.1 x
  have hw4 := hywb.2
  have hw6 := hyw6
  refine gz_s 2 (pc' := 2) (L' := [some (.ref x), none, none]) (S' := [.int (zi 0), .ref x]) rfl ?_
  refine gs_put rfl (by decide) rfl hS tx rfl rfl rfl rfl (Or.inl rfl) (by decide) (by omega) (by omega) (fun h1 sh1 eh1 fh1 => ?_)
  have pr2 := gRn.pt fh1 tx (by decide) hyf97
  refine gz_s 2 (pc' := 7) (L' := [some (.ref x), some (.int (zi 0)), none]) (S' := []) rfl ?_
  obtain ⟨c4, ec4, tc4⟩ := gJ.ref (k := 7) (G := gGG) sh1.1 tx rfl rfl rfl
  have huf5 : gUf ty 99 w0 0 0 h1 := ⟨_, gRn.mk uq tc4 (by decide) (fun _ => rfl), eUf.zero⟩
  have lp3 : ∀ (fu : Nat) (h6 : gH) (sy : Int) (un : Int), (258 - sy).toNat < fu → gSs rT 1027 ty [91004, 91008, 93999, 94999, 95999, 96999, 97999, 98999, 99999] h h6 → (0 ≤ sy ∧ sy ≤ 257) → (0 ≤ un ∧ un ≤ 257) → (un ≤ sy) → h6.2.2.2.2 x 8 = .int (zi un) → gRn 257 ty 97 w0 h6 → ewB w0 1999 → 0 < w0 256 → gRn (sy).toNat ty 96 (fun _ => 0) h6 → gRn (sy).toNat ty 98 (fun j9 => (j9 : Int)) h6 → gUf ty 99 w0 un sy h6 → gz gPP gGG gcn (d + 2) gt122 7 [some (.ref x), some (.int (zi sy)), none] [] h6 (fun q _ => gSs rT 1027 ty [91004, 91008, 93999, 94999, 95999, 96999, 97999, 98999, 99999] h q.2.2 ∧ ∃ t1 : Int, gfin gt122 q.1 q.2.1 = some none ∧ q.2.2.2.2.2.2 x 4 = .int (zi t1) ∧ 0 ≤ t1 ∧ t1 ≤ 256 ∧ (gRn 257 ty 96 (ehN w0) q.2.2) ∧ (gOd ty 93 94 95 (ehN w0) t1 q.2.2)) := by
    intro fu
    induction fu with
    | zero => intro h6 sy un hm; exact absurd hm (Nat.not_lt_zero _)
    | succ fu ihlp3 =>
      intro h6 sy un lp3m sh6 lp3f0 lp3f1 lp3f2 lp3k0 lp3k1 lp3k2 lp3k3 lp3k4 lp3k5 lp3k6
      refine gz_s 2 (pc' := 11) (L' := [some (.ref x), some (.int (zi sy)), none]) (S' := [.int (zi 256), .int (zi sy)]) rfl ?_
      by_cases hc7 : (256 : Int) < sy
      · refine gy_icT (pc' := 63) rfl (by decide) (by decide) (by omega) (by omega) hc7 ?_
        have es9 : sy = 257 := by omega
        subst es9
        obtain ⟨u9, ru9, iu9⟩ := lp3k6
        have us9 := iu9.fin
        have hun : un = eac w0 := us9.2.2.2
        have he1 : 1 ≤ eac w0 := eac_1 hw6
        refine gz_s 2 (pc' := 65) (L' := [some (.ref x), some (.int (zi 1)), none]) (S' := []) rfl ?_
        have lp8 : ∀ (fu : Nat) (h9 : gH) (jn : Int), (259 - jn).toNat < fu → gSs rT 1027 ty [91004, 91008, 93999, 94999, 95999, 96999, 97999, 98999, 99999] h h9 → (1 ≤ jn ∧ jn ≤ 258) → (jn ≤ un) → h9.2.2.2.2 x 8 = .int (zi un) → ewB w0 1999 → 0 < w0 256 → gRn 257 ty 99 u9 h9 → eUs w0 u9 un → gRn 257 ty 97 ((ehR w0 (jn - 1).toNat).1) h9 → gRn 257 ty 98 ((ehR w0 (jn - 1).toNat).2.1) h9 → gRn 257 ty 96 ((ehR w0 (jn - 1).toNat).2.2) h9 → gz gPP gGG gcn (d + 2) gt122 65 [some (.ref x), some (.int (zi jn)), none] [] h9 (fun q _ => gSs rT 1027 ty [91004, 91008, 93999, 94999, 95999, 96999, 97999, 98999, 99999] h q.2.2 ∧ ∃ t1 : Int, gfin gt122 q.1 q.2.1 = some none ∧ q.2.2.2.2.2.2 x 4 = .int (zi t1) ∧ 0 ≤ t1 ∧ t1 ≤ 256 ∧ (gRn 257 ty 96 (ehN w0) q.2.2) ∧ (gOd ty 93 94 95 (ehN w0) t1 q.2.2)) := by
          intro fu
          induction fu with
          | zero => intro h9 jn hm; exact absurd hm (Nat.not_lt_zero _)
          | succ fu ihlp8 =>
            intro h9 jn lp8m sh9 lp8f0 lp8f1 lp8k0 lp8k1 lp8k2 lp8k3 lp8k4 lp8k5 lp8k6 lp8k7
            refine gz_s 2 (pc' := 67) (L' := [some (.ref x), some (.int (zi jn)), none]) (S' := [.ref x, .int (zi jn)]) rfl ?_
            refine gs_gtk rfl (by decide) rfl sh9.1 tx rfl rfl lp8k0 ?_
            by_cases hc10 : (un : Int) ≤ jn
            · refine gy_icT (pc' := 95) rfl (by decide) (by decide) (by omega) (by omega) hc10 ?_
              have hE : ehE w0 = (ehR w0 (jn - 1).toNat) := ehE_at he1 (by omega)
              have hrw11 : gRn 257 ty 96 (ehN w0) h9 := by show gRn 257 ty 96 (ehE w0).2.2 h9; rw [hE]; exact lp8k7
              have lz9 : ∀ j9 : Nat, j9 < 257 → ¬ 0 < w0 j9 → ehN w0 j9 = 0 := fun j9 hj9 hn9 => ((ehI.all hw5 257).2.2.1 j9 hj9 hn9).2.2
              have l169 : ∀ j9 : Nat, j9 < 257 → 0 ≤ ehN w0 j9 ∧ ehN w0 j9 ≤ 16 := fun j9 hj9 => eh16 hw5 (by omega) 257 j9 hj9
              refine gz_s 1 (pc' := 96) (L' := [some (.ref x), some (.int (zi jn)), none]) (S' := [.ref x]) rfl ?_
              refine gz_call rfl (by decide) rfl (by decide) (by decide) (gcal_of rfl rfl rfl (Nat.le_of_ble_eq_true rfl) (gJ.recv (G := gGG) sh9.1 tx rfl rfl)) (cw_Suited0_orderCodes _ sh9.1 x tx un lp8k0 ⟨by omega, by omega⟩ (ehN w0) u9 w0 uq hrw11 lp8k3 lp8k4 lz9 l169) (fun q12 _ wq12 => ?_)
              obtain ⟨pq12, oq12, hq12⟩ := q12
              obtain ⟨xq12, fq12_0, gq12, efq12_0, afq12_0, bfq12_0, yq12_0⟩ := wq12
              refine ⟨_, gq12, ?_⟩
              show gz gPP gGG gcn _ _ 99 [some (.ref x), some (.int (zi jn)), none] [] hq12 _
              have sq12 : gSs rT 1027 ty [91004, 91008, 93999, 94999, 95999, 96999, 97999, 98999, 99999] h hq12 := gSs.tr sh9 xq12 (by decide)
              have s13 := (xq12.2.2.2.2.2 x 8 (by rw [tx]; decide)).trans lp8k0
              have pr14 := gRn.fr xq12.2 (by decide) lp8k3
              have pr15 := gRn.fr xq12.2 (by decide) lp8k5
              have pr16 := gRn.fr xq12.2 (by decide) lp8k6
              have pr17 := gRn.fr xq12.2 (by decide) hrw11
              exact gz_end (I := .return_) (len := 1) rfl (Or.inl rfl) ⟨sq12, fq12_0, rfl, efq12_0, (by omega), (by omega), pr17, yq12_0⟩
            · refine gy_icF rfl (by decide) (by decide) (by omega) (by omega) hc10 ?_
              have hmo := ehR_more he1 (n := (jn - 1).toNat) (by omega)
              obtain ⟨b0, a0, oo9, ee9⟩ := (ehS_of (ehR w0 (jn - 1).toNat)).resolve_left (fun q => by have := q.1; omega)
              have ii9 := ehI.all hw5 (jn - 1).toNat
              have ea9 : ehA (ehR w0 (jn - 1).toNat) = ehL (ehR w0 (jn - 1).toNat).1 (-1) 257 := rfl
              have ha9 : ∀ j9 : Nat, j9 < 257 → 0 < (ehR w0 (jn - 1).toNat).1 j9 → 0 < w0 j9 := ehI.act ii9
              refine gz_s 2 (pc' := 75) (L' := [some (.ref x), some (.int (zi jn)), none]) (S' := [.int (zi (-1)), .ref x]) rfl ?_
              refine gz_call rfl (by decide) rfl (by decide) (by decide) (gcal_of rfl rfl rfl (Nat.le_of_ble_eq_true rfl) (gJ.recv (G := gGG) sh9.1 tx rfl rfl)) (cw_Suited0_leastGroup _ sh9.1 x tx (-1) ⟨by omega, by omega⟩ un lp8k0 ⟨by omega, by omega⟩ ((ehR w0 (jn - 1).toNat).1) u9 w0 uq lp8k5 lp8k3 lp8k4 ha9) (fun q18 _ wq18 => ?_)
              obtain ⟨pq18, oq18, hq18⟩ := q18
              obtain ⟨xq18, zq18, gq18, aq18, bq18, uq18_0, uq18_1⟩ := wq18
              refine ⟨_, gq18, ?_⟩
              show gz gPP gGG gcn _ _ 78 [some (.ref x), some (.int (zi jn)), none] [.int (zi zq18)] hq18 _
              have sq18 : gSs rT 1027 ty [91004, 91008, 93999, 94999, 95999, 96999, 97999, 98999, 99999] h hq18 := gSs.tr sh9 xq18 (by decide)
              have s19 := (xq18.2.2.2.2.2 x 8 (by rw [tx]; decide)).trans lp8k0
              have pr20 := gRn.fr xq18.2 (by decide) lp8k3
              have pr21 := gRn.fr xq18.2 (by decide) lp8k5
              have pr22 := gRn.fr xq18.2 (by decide) lp8k6
              have pr23 := gRn.fr xq18.2 (by decide) lp8k7
              have hza : zq18 = ehA (ehR w0 (jn - 1).toNat) := by omega
              refine gz_s 5 (pc' := 83) (L' := [some (.ref x), some (.int (zi jn)), some (.int (zi zq18))]) (S' := [.int (zi zq18), .ref x, .int (zi zq18), .ref x]) rfl ?_
              refine gz_call rfl (by decide) rfl (by decide) (by decide) (gcal_of rfl rfl rfl (Nat.le_of_ble_eq_true rfl) (gJ.recv (G := gGG) sq18.1 tx rfl rfl)) (cw_Suited0_leastGroup _ sq18.1 x tx zq18 ⟨by omega, by omega⟩ un s19 ⟨by omega, by omega⟩ ((ehR w0 (jn - 1).toNat).1) u9 w0 uq pr21 pr20 lp8k4 ha9) (fun q24 _ wq24 => ?_)
              obtain ⟨pq24, oq24, hq24⟩ := q24
              obtain ⟨xq24, zq24, gq24, aq24, bq24, uq24_0, uq24_1⟩ := wq24
              refine ⟨_, gq24, ?_⟩
              show gz gPP gGG gcn _ _ 86 [some (.ref x), some (.int (zi jn)), some (.int (zi zq18))] [.int (zi zq24), .int (zi zq18), .ref x] hq24 _
              have sq24 : gSs rT 1027 ty [91004, 91008, 93999, 94999, 95999, 96999, 97999, 98999, 99999] h hq24 := gSs.tr sq18 xq24 (by decide)
              have s25 := (xq24.2.2.2.2.2 x 8 (by rw [tx]; decide)).trans s19
              have pr26 := gRn.fr xq24.2 (by decide) pr20
              have pr27 := gRn.fr xq24.2 (by decide) pr21
              have pr28 := gRn.fr xq24.2 (by decide) pr22
              have pr29 := gRn.fr xq24.2 (by decide) pr23
              have eb9 : ehL (ehR w0 (jn - 1).toNat).1 zq18 257 = ehB (ehR w0 (jn - 1).toNat) := by rw [hza]; rfl
              have hzb : zq24 = ehB (ehR w0 (jn - 1).toNat) := by omega
              have hu9 : ∀ j9 : Nat, j9 < 257 → ¬ 0 < w0 j9 → ¬ ((ehR w0 (jn - 1).toNat).2.1 j9 = zq18 ∨ (ehR w0 (jn - 1).toNat).2.1 j9 = zq24) := ehI.un ii9 oo9 hza hzb (by omega) (by omega)
              have wm9 : ∀ j9 : Nat, j9 < 257 → 0 ≤ (ehR w0 (jn - 1).toNat).1 j9 ∧ (ehR w0 (jn - 1).toNat).1 j9 ≤ 1000000 := ehI.wm ii9 (by omega)
              have lm9 : ∀ j9 : Nat, j9 < 257 → 0 ≤ (ehR w0 (jn - 1).toNat).2.2 j9 ∧ (ehR w0 (jn - 1).toNat).2.2 j9 ≤ 200 := fun j9 hj9 => by have := eh16 hw5 (by omega) (jn - 1).toNat j9 hj9; omega
              have hne9 := oo9.2.2.1
              refine gz_call rfl (by decide) rfl (by decide) (by decide) (gcal_of rfl rfl rfl (Nat.le_of_ble_eq_true rfl) (gJ.recv (G := gGG) sq24.1 tx rfl rfl)) (cw_Suited0_joinGroups _ sq24.1 x tx zq18 ⟨by omega, by omega⟩ zq24 ⟨by omega, by omega⟩ un s25 ⟨by omega, by omega⟩ ((ehR w0 (jn - 1).toNat).1) ((ehR w0 (jn - 1).toNat).2.1) ((ehR w0 (jn - 1).toNat).2.2) u9 w0 (by omega) uq pr27 pr28 pr29 pr26 lp8k4 hu9 wm9 lm9) (fun q30 _ wq30 => ?_)
              obtain ⟨pq30, oq30, hq30⟩ := q30
              obtain ⟨xq30, gq30, yq30_0, yq30_1, yq30_2⟩ := wq30
              refine ⟨_, gq30, ?_⟩
              show gz gPP gGG gcn _ _ 89 [some (.ref x), some (.int (zi jn)), some (.int (zi zq18))] [] hq30 _
              have sq30 : gSs rT 1027 ty [91004, 91008, 93999, 94999, 95999, 96999, 97999, 98999, 99999] h hq30 := gSs.tr sq24 xq30 (by decide)
              have s31 := (xq30.2.2.2.2.2 x 8 (by rw [tx]; decide)).trans s25
              have pr32 := gRn.fr xq30.2 (by decide) pr26
              have hR : (ehR w0 (jn + 1 - 1).toNat) = ehJ (zq18).toNat (zq24).toNat ((ehR w0 (jn - 1).toNat).1, (ehR w0 (jn - 1).toNat).2.1, (ehR w0 (jn - 1).toNat).2.2) := by
                rw [(by omega : (jn + 1 - 1).toNat = (jn - 1).toNat + 1)]
                show ehS (ehR w0 (jn - 1).toNat) = _
                rw [ee9, hza, hzb]
              have hrw33 : gRn 257 ty 97 ((ehR w0 (jn + 1 - 1).toNat).1) hq30 := by rw [hR]; exact yq30_0
              have hrw34 : gRn 257 ty 98 ((ehR w0 (jn + 1 - 1).toNat).2.1) hq30 := by rw [hR]; exact yq30_1
              have hrw35 : gRn 257 ty 96 ((ehR w0 (jn + 1 - 1).toNat).2.2) hq30 := by rw [hR]; exact yq30_2
              refine gy_s 2 (pc' := 65) (L' := [some (.ref x), some (.int ((zi jn) + zi 1)), some (.int (zi zq18))]) (S' := []) (L2 := [some (.ref x), some (.int (zi (jn + 1))), some (.int (zi zq18))]) (S2 := []) rfl (by simp only [zi_add, zi_sub, zi_mul, zi_neg, zi_and1, zi_and7, zi_and15, zi_and31, zi_and255]) (by simp only [zi_add, zi_sub, zi_mul, zi_neg, zi_and1, zi_and7, zi_and15, zi_and31, zi_and255]) ?_
              exact gz_wk (ihlp8 hq30 (jn + 1) (by omega) sq30 (by omega) (by omega) s31 lp8k1 lp8k2 pr32 lp8k4 hrw33 hrw34 hrw35) (gLw.s (gLw.s (gLw.n gLw.z)))
        exact gz_wk (lp8 _ h6 1 (Nat.lt_succ_self _) sh6 (by omega) (by omega) lp3k0 lp3k2 lp3k3 ru9 us9 (show gRn 257 ty 97 (ehR w0 (1 - 1 : Int).toNat).1 h6 from lp3k1) (show gRn 257 ty 98 (ehR w0 (1 - 1 : Int).toNat).2.1 h6 from lp3k5) (show gRn 257 ty 96 (ehR w0 (1 - 1 : Int).toNat).2.2 h6 from lp3k4)) (gLw.s (gLw.s (gLw.n gLw.z)))
      · refine gy_icF rfl (by decide) (by decide) (by omega) (by omega) hc7 ?_
        refine gz_s 1 (pc' := 15) (L' := [some (.ref x), some (.int (zi sy)), none]) (S' := [.ref x]) rfl ?_
        refine gs_gtr rfl (by decide) rfl sh6.1 tx rfl rfl rfl (fun c36 ec36 tc36 => ?_)
        refine gz_s 2 (pc' := 20) (L' := [some (.ref x), some (.int (zi sy)), none]) (S' := [.int (zi 0), .int (zi sy), .ref c36]) rfl ?_
        have hl37 : 257 ≤ h6.2.2.2.1 c36 ∧ h6.2.2.2.1 c36 ≤ 257 := gJ.rowl (G := gGG) sh6.1 tc36 rfl
        refine gs_ast rfl (by decide) sh6 tc36 rfl rfl rfl (by decide) (fun _ => rfl) (by omega) (by omega) (fun _ => (by decide : (96999 : Nat) ∈ ([91004, 91008, 93999, 94999, 95999, 96999, 97999, 98999, 99999] : List Nat))) (by omega) (by omega) (fun h38 sh38 eh38 fh38 => ?_)
        have pr39 := gRn.pt fh38 tc36 (by decide) lp3k1
        have pr40 := gRn.pt fh38 tc36 (by decide) lp3k5
        have pr41 := gUf.pt fh38 tc36 (by decide) lp3k6
        have s42 := (fh38 x 8 (fun q => absurd (((tx).symm.trans (congrArg ty q.1)).trans tc36) (by decide))).trans lp3k0
        have s43 := (fh38 x 3 (fun q => absurd (((tx).symm.trans (congrArg ty q.1)).trans tc36) (by decide))).trans ec36
        have pr44 := gEl.set (i := sy) (z := 0) uq tc36 (by decide) eh38 (by omega) (by omega)
        have hrw45 : gRn (sy + 1).toNat ty 96 (fun _ => 0) h38 := gRn.ext (z := 0) uq tc36 (by decide) fh38 eh38 (by omega) (by omega) (by omega) rfl lp3k4
        refine gz_s 1 (pc' := 22) (L' := [some (.ref x), some (.int (zi sy)), none]) (S' := [.ref x]) rfl ?_
        refine gs_gtr rfl (by decide) rfl sh38.1 tx rfl rfl rfl (fun c46 ec46 tc46 => ?_)
        refine gz_s 2 (pc' := 27) (L' := [some (.ref x), some (.int (zi sy)), none]) (S' := [.int (zi sy), .int (zi sy), .ref c46]) rfl ?_
        have hl47 : 257 ≤ h38.2.2.2.1 c46 ∧ h38.2.2.2.1 c46 ≤ 257 := gJ.rowl (G := gGG) sh38.1 tc46 rfl
        refine gs_ast rfl (by decide) sh38 tc46 rfl rfl rfl (by decide) (fun _ => rfl) (by omega) (by omega) (fun _ => (by decide : (98999 : Nat) ∈ ([91004, 91008, 93999, 94999, 95999, 96999, 97999, 98999, 99999] : List Nat))) (by omega) (by omega) (fun h48 sh48 eh48 fh48 => ?_)
        have pr49 := gRn.pt fh48 tc46 (by decide) pr39
        have pr50 := gUf.pt fh48 tc46 (by decide) pr41
        have pr51 := gEl.pt fh48 tc46 (by decide) pr44
        have pr52 := gRn.pt fh48 tc46 (by decide) hrw45
        have s53 := (fh48 x 8 (fun q => absurd (((tx).symm.trans (congrArg ty q.1)).trans tc46) (by decide))).trans s42
        have s54 := (fh48 x 3 (fun q => absurd (((tx).symm.trans (congrArg ty q.1)).trans tc46) (by decide))).trans s43
        have s55 := (fh48 x 6 (fun q => absurd (((tx).symm.trans (congrArg ty q.1)).trans tc46) (by decide))).trans ec46
        have pr56 := gEl.set (i := sy) (z := sy) uq tc46 (by decide) eh48 (by omega) (by omega)
        have hrw57 : gRn (sy + 1).toNat ty 98 (fun j9 => (j9 : Int)) h48 := gRn.ext (z := sy) uq tc46 (by decide) fh48 eh48 (by omega) (by omega) (by omega) (by show sy = (((sy).toNat : Nat) : Int); omega) pr40
        refine gz_s 1 (pc' := 29) (L' := [some (.ref x), some (.int (zi sy)), none]) (S' := [.ref x]) rfl ?_
        refine gs_gtr rfl (by decide) rfl sh48.1 tx rfl rfl rfl (fun c58 ec58 tc58 => ?_)
        refine gz_s 1 (pc' := 33) (L' := [some (.ref x), some (.int (zi sy)), none]) (S' := [.int (zi sy), .ref c58]) rfl ?_
        have hl59 : 257 ≤ h48.2.2.2.1 c58 ∧ h48.2.2.2.1 c58 ≤ 257 := gJ.rowl (G := gGG) sh48.1 tc58 rfl
        refine gs_ald rfl (by decide) sh48.1 tc58 rfl rfl rfl (by decide) (fun _ => rfl) (by omega) (by omega) (fun z60 ez60 az60 bz60 => ?_)
        have hf61 := gRn.at (i := sy) (z := z60) pr49 tc58 ez60 (by omega) (by omega) (by omega)
        by_cases hc62 : (z60 : Int) ≤ 0
        · refine gy_ifT (pc' := 57) rfl (by decide) (by decide) (by omega) hc62 ?_
          have huf63 : gUf ty 99 w0 un (sy + 1) h48 := by
            obtain ⟨u8, a8, b8⟩ := pr50
            exact ⟨u8, a8, b8.pass (by omega) (by have h9 := hf61; omega)⟩
          refine gy_s 2 (pc' := 7) (L' := [some (.ref x), some (.int ((zi sy) + zi 1)), none]) (S' := []) (L2 := [some (.ref x), some (.int (zi (sy + 1))), none]) (S2 := []) rfl (by simp only [zi_add, zi_sub, zi_mul, zi_neg, zi_and1, zi_and7, zi_and15, zi_and31, zi_and255]) (by simp only [zi_add, zi_sub, zi_mul, zi_neg, zi_and1, zi_and7, zi_and15, zi_and31, zi_and255]) ?_
          exact gz_wk (ihlp3 h48 (sy + 1) un (by omega) sh48 (by omega) (by omega) (by omega) s53 pr49 lp3k2 lp3k3 pr52 hrw57 huf63) (gLw.s (gLw.s (gLw.n gLw.z)))
        · refine gy_ifF rfl (by decide) (by decide) (by omega) hc62 ?_
          refine gz_s 1 (pc' := 38) (L' := [some (.ref x), some (.int (zi sy)), none]) (S' := [.ref x]) rfl ?_
          refine gs_gtr rfl (by decide) rfl sh48.1 tx rfl rfl rfl (fun c64 ec64 tc64 => ?_)
          have ee65 : c4 = c64 := uq c4 c64 (tc4.trans tc64.symm) (by rw [tc4]; decide) (by rw [tc4]; decide)
          subst ee65
          refine gz_s 1 (pc' := 42) (L' := [some (.ref x), some (.int (zi sy)), none]) (S' := [.ref x, .ref c4]) rfl ?_
          refine gs_gtk rfl (by decide) rfl sh48.1 tx rfl rfl s53 ?_
          refine gz_s 1 (pc' := 46) (L' := [some (.ref x), some (.int (zi sy)), none]) (S' := [.int (zi sy), .int (zi un), .ref c4]) rfl ?_
          obtain ⟨u9, ru9, iu9⟩ := pr50
          have hl66 : 257 ≤ h48.2.2.2.1 c4 ∧ h48.2.2.2.1 c4 ≤ 257 := gJ.rowl (G := gGG) sh48.1 tc4 rfl
          refine gs_ast rfl (by decide) sh48 tc4 rfl rfl rfl (by decide) (fun _ => rfl) (by omega) (by omega) (fun _ => (by decide : (99999 : Nat) ∈ ([91004, 91008, 93999, 94999, 95999, 96999, 97999, 98999, 99999] : List Nat))) (by omega) (by omega) (fun h67 sh67 eh67 fh67 => ?_)
          have pr68 := gRn.pt fh67 tc4 (by decide) pr49
          have pr69 := gEl.pt fh67 tc4 (by decide) pr51
          have pr70 := gRn.pt fh67 tc4 (by decide) pr52
          have pr71 := gEl.pt fh67 tc4 (by decide) pr56
          have pr72 := gRn.pt fh67 tc4 (by decide) hrw57
          have pr73 := gRn.put (i := un) (z := sy) uq tc4 (by decide) fh67 eh67 (by omega) (by omega) ru9
          have s74 := (fh67 x 8 (fun q => absurd (((tx).symm.trans (congrArg ty q.1)).trans tc4) (by decide))).trans s53
          have s75 := (fh67 x 3 (fun q => absurd (((tx).symm.trans (congrArg ty q.1)).trans tc4) (by decide))).trans s54
          have s76 := (fh67 x 6 (fun q => absurd (((tx).symm.trans (congrArg ty q.1)).trans tc4) (by decide))).trans s55
          have s77 := (fh67 x 5 (fun q => absurd (((tx).symm.trans (congrArg ty q.1)).trans tc4) (by decide))).trans ec58
          have s78 := (fh67 x 7 (fun q => absurd (((tx).symm.trans (congrArg ty q.1)).trans tc4) (by decide))).trans ec64
          have pr79 := gEl.set (i := un) (z := sy) uq tc4 (by decide) eh67 (by omega) (by omega)
          have huf80 : gUf ty 99 w0 (un + 1) (sy + 1) h67 := ⟨_, pr73, iu9.put (by omega) (by omega) (by have h9 := hf61; omega)⟩
          refine gz_s 2 (pc' := 49) (L' := [some (.ref x), some (.int (zi sy)), none]) (S' := [.ref x, .ref x]) rfl ?_
          refine gs_gtk rfl (by decide) rfl sh67.1 tx rfl rfl s74 ?_
          refine gy_s 2 (pc' := 54) (L' := [some (.ref x), some (.int (zi sy)), none]) (S' := [.int ((zi un) + (zi 1)), .ref x]) (L2 := [some (.ref x), some (.int (zi sy)), none]) (S2 := [.int (zi (un + 1)), .ref x]) rfl (by simp only [zi_add, zi_sub, zi_mul, zi_neg, zi_and1, zi_and7, zi_and15, zi_and31, zi_and255]) (by simp only [zi_add, zi_sub, zi_mul, zi_neg, zi_and1, zi_and7, zi_and15, zi_and31, zi_and255]) ?_
          refine gs_put rfl (by decide) rfl sh67 tx rfl rfl rfl rfl (Or.inl rfl) (by decide) (by omega) (by omega) (fun h81 sh81 eh81 fh81 => ?_)
          have pr82 := gRn.pt fh81 tx (by decide) pr68
          have pr83 := gEl.pt fh81 tx (by decide) pr69
          have pr84 := gRn.pt fh81 tx (by decide) pr70
          have pr85 := gEl.pt fh81 tx (by decide) pr71
          have pr86 := gRn.pt fh81 tx (by decide) pr72
          have pr87 := gEl.pt fh81 tx (by decide) pr79
          have pr88 := gUf.pt fh81 tx (by decide) huf80
          have s89 := (fh81 x 3 (fun q => absurd q.2 (by decide))).trans s75
          have s90 := (fh81 x 6 (fun q => absurd q.2 (by decide))).trans s76
          have s91 := (fh81 x 5 (fun q => absurd q.2 (by decide))).trans s77
          have s92 := (fh81 x 7 (fun q => absurd q.2 (by decide))).trans s78
          refine gy_s 2 (pc' := 7) (L' := [some (.ref x), some (.int ((zi sy) + zi 1)), none]) (S' := []) (L2 := [some (.ref x), some (.int (zi (sy + 1))), none]) (S2 := []) rfl (by simp only [zi_add, zi_sub, zi_mul, zi_neg, zi_and1, zi_and7, zi_and15, zi_and31, zi_and255]) (by simp only [zi_add, zi_sub, zi_mul, zi_neg, zi_and1, zi_and7, zi_and15, zi_and31, zi_and255]) ?_
          exact gz_wk (ihlp3 h81 (sy + 1) (un + 1) (by omega) sh81 (by omega) (by omega) (by omega) eh81 pr82 lp3k2 lp3k3 pr84 pr86 pr88) (gLw.s (gLw.s (gLw.n gLw.z)))
  exact gz_wk (lp3 _ h1 0 0 (Nat.lt_succ_self _) sh1 (by omega) (by omega) (by omega) eh1 pr2 hywb hyw6 (gRn.nil (fun _ => rfl)) (gRn.nil (fun _ => rfl)) huf5) (gLw.s (gLw.s (gLw.n gLw.z)))
set_option maxRecDepth 20000 in
set_option maxHeartbeats 4000000 in
theorem cw_fill1 (d : Nat) {ty : Nat → Nat} {h : gH} (hJ : gJ rT 1027 ty h) (a : Nat) (ta : ty a = 80) (v : Int) (rv : 0 ≤ v ∧ v ≤ 255) (uq : gUq ty) : gz gPP gGG gcn (d + 0) gt5 0 (gent [.ref a, .int (zi v)] 4) [] h (fun q _ => gSs rT 1027 ty [80999] h q.2.2 ∧ gfin gt5 q.1 q.2.1 = some none ∧ (gRn 257 ty 80 (fun _ => v) q.2.2)) := by
  have hS : gSs rT 1027 ty [80999] h h := gSs.rf hJ
  refine gz_s 3 (pc' := 3) (L' := [some (.ref a), some (.int (zi v)), some (.int (zi 0)), none]) (S' := [.ref a]) rfl ?_
  refine gs_len rfl (by decide) hS.1 ta rfl rfl rfl (fun z1 ez1 az1 bz1 => ?_)
  have cz1 : 257 ≤ z1 ∧ z1 ≤ 257 := ⟨az1, bz1⟩
  refine gz_s 1 (pc' := 5) (L' := [some (.ref a), some (.int (zi v)), some (.int (zi 0)), some (.int (zi z1))]) (S' := []) rfl ?_
  have lp2 : ∀ (fu : Nat) (h3 : gH) (k : Int), (258 - k).toNat < fu → gSs rT 1027 ty [80999] h h3 → (0 ≤ k ∧ k ≤ 257) → gRn (k).toNat ty 80 (fun _ => v) h3 → gz gPP gGG gcn (d + 0) gt5 5 [some (.ref a), some (.int (zi v)), some (.int (zi k)), some (.int (zi z1))] [] h3 (fun q _ => gSs rT 1027 ty [80999] h q.2.2 ∧ gfin gt5 q.1 q.2.1 = some none ∧ (gRn 257 ty 80 (fun _ => v) q.2.2)) := by
    intro fu
    induction fu with
    | zero => intro h3 k hm; exact absurd hm (Nat.not_lt_zero _)
    | succ fu ihlp2 =>
      intro h3 k lp2m sh3 lp2f0 lp2k0
      have hln : h3.2.2.2.1 a = h.2.2.2.1 a := congrFun sh3.2.2.2.2.1 a
      refine gz_s 2 (pc' := 7) (L' := [some (.ref a), some (.int (zi v)), some (.int (zi k)), some (.int (zi z1))]) (S' := [.int (zi z1), .int (zi k)]) rfl ?_
      by_cases hc4 : (z1 : Int) ≤ k
      · refine gy_icT (pc' := 20) rfl (by decide) (by decide) (by omega) (by omega) hc4 ?_
        have hrw5 : gRn 257 ty 80 (fun _ => v) h3 := by have e9 := lp2k0; rw [(by omega : (k).toNat = 257)] at e9; exact e9
        exact gz_end (I := .return_) (len := 1) rfl (Or.inl rfl) ⟨sh3, rfl, hrw5⟩
      · refine gy_icF rfl (by decide) (by decide) (by omega) (by omega) hc4 ?_
        refine gz_s 3 (pc' := 13) (L' := [some (.ref a), some (.int (zi v)), some (.int (zi k)), some (.int (zi z1))]) (S' := [.int (zi v), .int (zi k), .ref a]) rfl ?_
        have hl6 : 257 ≤ h3.2.2.2.1 a ∧ h3.2.2.2.1 a ≤ 257 := gJ.rowl (G := gGG) sh3.1 ta rfl
        refine gs_ast rfl (by decide) sh3 ta rfl rfl rfl (by decide) (fun _ => rfl) (by omega) (by omega) (fun _ => (by decide : (80999 : Nat) ∈ ([80999] : List Nat))) (by omega) (by omega) (fun h7 sh7 eh7 fh7 => ?_)
        have pr8 := gEl.set (i := k) (z := v) uq ta (by decide) eh7 (by omega) (by omega)
        have hrw9 : gRn (k + 1).toNat ty 80 (fun _ => v) h7 := gRn.ext (z := v) uq ta (by decide) fh7 eh7 (by omega) (by omega) (by omega) rfl lp2k0
        refine gy_s 2 (pc' := 5) (L' := [some (.ref a), some (.int (zi v)), some (.int ((zi k) + zi 1)), some (.int (zi z1))]) (S' := []) (L2 := [some (.ref a), some (.int (zi v)), some (.int (zi (k + 1))), some (.int (zi z1))]) (S2 := []) rfl (by simp only [zi_add, zi_sub, zi_mul, zi_neg, zi_and1, zi_and7, zi_and15, zi_and31, zi_and255]) (by simp only [zi_add, zi_sub, zi_mul, zi_neg, zi_and1, zi_and7, zi_and15, zi_and31, zi_and255]) ?_
        exact gz_wk (ihlp2 h7 (k + 1) (by omega) sh7 (by omega) hrw9) (gLw.s (gLw.s (gLw.s (gLw.s gLw.z))))
  exact gz_wk (lp2 _ h 0 (Nat.lt_succ_self _) hS (by omega) (gRn.nil (fun _ => rfl))) (gLw.s (gLw.s (gLw.s (gLw.s gLw.z))))
set_option maxRecDepth 20000 in
set_option maxHeartbeats 4000000 in
theorem cw_Suited1_forget (d : Nat) {ty : Nat → Nat} {h : gH} (hJ : gJ rT 1027 ty h) (x : Nat) (tx : ty x = 92) (uq : gUq ty) : gz gPP gGG gcn (d + 1) gt105 0 (gent [.ref x] 1) [] h (fun q _ => gSs rT 1027 ty [80999] h q.2.2 ∧ gfin gt105 q.1 q.2.1 = some none ∧ (gRn 257 ty 80 e1w q.2.2)) := by
  have hS : gSs rT 1027 ty [80999] h h := gSs.rf hJ
  refine gz_s 1 (pc' := 1) (L' := [some (.ref x)]) (S' := [.ref x]) rfl ?_
  refine gs_gtr rfl (by decide) rfl hS.1 tx rfl rfl rfl (fun c1 ec1 tc1 => ?_)
  refine gz_s 1 (pc' := 5) (L' := [some (.ref x)]) (S' := [.int (zi 0), .ref c1]) rfl ?_
  refine gz_call rfl (by decide) rfl (by decide) (by decide) (gcal_of rfl rfl rfl (Nat.le_of_ble_eq_true rfl) rfl) (cw_fill1 _ hS.1 c1 tc1 0 ⟨by omega, by omega⟩ uq) (fun q2 _ wq2 => ?_)
  obtain ⟨pq2, oq2, hq2⟩ := q2
  obtain ⟨xq2, gq2, yq2_0⟩ := wq2
  refine ⟨_, gq2, ?_⟩
  show gz gPP gGG gcn _ _ 8 [some (.ref x)] [] hq2 _
  have sq2 : gSs rT 1027 ty [80999] h hq2 := gSs.tr hS xq2 (by decide)
  have s3 := (xq2.2.2.2.2.2 x 5 (by rw [tx]; decide)).trans ec1
  refine gz_s 1 (pc' := 9) (L' := [some (.ref x)]) (S' := [.ref x]) rfl ?_
  refine gs_gtk rfl (by decide) rfl sq2.1 tx rfl rfl s3 ?_
  refine gz_s 2 (pc' := 16) (L' := [some (.ref x)]) (S' := [.int (zi 1), .int (zi 256), .ref c1]) rfl ?_
  have hl4 : 257 ≤ hq2.2.2.2.1 c1 ∧ hq2.2.2.2.1 c1 ≤ 257 := gJ.rowl (G := gGG) sq2.1 tc1 rfl
  refine gs_ast rfl (by decide) sq2 tc1 rfl rfl rfl (by decide) (fun _ => rfl) (by omega) (by omega) (fun _ => (by decide : (80999 : Nat) ∈ ([80999] : List Nat))) (by omega) (by omega) (fun h5 sh5 eh5 fh5 => ?_)
  have pr6 := gRn.put (i := 256) (z := 1) uq tc1 (by decide) fh5 eh5 (by omega) (by omega) yq2_0
  have s7 := (fh5 x 5 (fun q => absurd (((tx).symm.trans (congrArg ty q.1)).trans tc1) (by decide))).trans s3
  have pr8 := gEl.set (i := 256) (z := 1) uq tc1 (by decide) eh5 (by omega) (by omega)
  have hrw9 : gRn 257 ty 80 e1w h5 := gRn.cg (fun _ _ => rfl) pr6
  exact gz_end (I := .return_) (len := 1) rfl (Or.inl rfl) ⟨sh5, rfl, hrw9⟩
set_option maxRecDepth 20000 in
set_option maxHeartbeats 4000000 in
theorem cw_Suited1_countSymbol (d : Nat) {ty : Nat → Nat} {h : gH} (hJ : gJ rT 1027 ty h) (x : Nat) (tx : ty x = 92) (s : Int) (rs : 0 ≤ s ∧ s ≤ 255) (w : Nat → Int) (uq : gUq ty) (hyf80 : gRn 257 ty 80 w h) (hywb : ewB w 90000) : gz gPP gGG gcn (d + 0) gt116 0 (gent [.ref x, .int (zi s)] 2) [] h (fun q _ => gSs rT 1027 ty [80999] h q.2.2 ∧ gfin gt116 q.1 q.2.1 = some none ∧ (gRn 257 ty 80 (ecS s w) q.2.2)) := by
  have hS : gSs rT 1027 ty [80999] h h := gSs.rf hJ
  refine gz_s 1 (pc' := 1) (L' := [some (.ref x), some (.int (zi s))]) (S' := [.int (zi s)]) rfl ?_
  refine gy_ifF rfl (by decide) (by decide) ⟨by omega, by omega⟩ (by first | (simp [zc]; done) | (simp only [zc]; omega)) ?_
  refine gz_s 2 (pc' := 8) (L' := [some (.ref x), some (.int (zi s))]) (S' := [.int (zi 256), .int (zi s)]) rfl ?_
  refine gy_icF rfl (by decide) (by decide) ⟨by omega, by omega⟩ ⟨by omega, by omega⟩ (by first | (simp [zc]; done) | (simp only [zc]; omega)) ?_
  refine gz_s 1 (pc' := 12) (L' := [some (.ref x), some (.int (zi s))]) (S' := [.ref x]) rfl ?_
  refine gs_gtr rfl (by decide) rfl hS.1 tx rfl rfl rfl (fun c1 ec1 tc1 => ?_)
  refine gz_s 2 (pc' := 17) (L' := [some (.ref x), some (.int (zi s))]) (S' := [.int (zi s), .ref c1, .int (zi s), .ref c1]) rfl ?_
  have hl2 : 257 ≤ h.2.2.2.1 c1 ∧ h.2.2.2.1 c1 ≤ 257 := gJ.rowl (G := gGG) hS.1 tc1 rfl
  refine gs_ald rfl (by decide) hS.1 tc1 rfl rfl rfl (by decide) (fun _ => rfl) (by omega) (by omega) (fun z3 ez3 az3 bz3 => ?_)
  have hf4 := gRn.at (i := s) (z := z3) hyf80 tc1 ez3 (by omega) (by omega) (by omega)
  have hb5 := hywb.at (j := (s).toNat) (by omega)
  rw [hf4] at hb5
  refine gy_s 2 (pc' := 20) (L' := [some (.ref x), some (.int (zi s))]) (S' := [.int ((zi z3) + (zi 1)), .int (zi s), .ref c1]) (L2 := [some (.ref x), some (.int (zi s))]) (S2 := [.int (zi (z3 + 1)), .int (zi s), .ref c1]) rfl (by simp only [zi_add, zi_sub, zi_mul, zi_neg, zi_and1, zi_and7, zi_and15, zi_and31, zi_and255]) (by simp only [zi_add, zi_sub, zi_mul, zi_neg, zi_and1, zi_and7, zi_and15, zi_and31, zi_and255]) ?_
  have hl6 : 257 ≤ h.2.2.2.1 c1 ∧ h.2.2.2.1 c1 ≤ 257 := gJ.rowl (G := gGG) hS.1 tc1 rfl
  refine gs_ast rfl (by decide) hS tc1 rfl rfl rfl (by decide) (fun _ => rfl) (by omega) (by omega) (fun _ => (by decide : (80999 : Nat) ∈ ([80999] : List Nat))) (by omega) (by omega) (fun h7 sh7 eh7 fh7 => ?_)
  have pr8 := gRn.put (i := s) (z := z3 + 1) uq tc1 (by decide) fh7 eh7 (by omega) (by omega) hyf80
  have s9 := (fh7 x 5 (fun q => absurd (((tx).symm.trans (congrArg ty q.1)).trans tc1) (by decide))).trans ec1
  have pr10 := gEl.set (i := s) (z := z3 + 1) uq tc1 (by decide) eh7 (by omega) (by omega)
  have hrw11 : gRn 257 ty 80 (ecS s w) h7 := by unfold ecS; rw [hf4]; exact pr8
  exact gz_end (I := .return_) (len := 1) rfl (Or.inl rfl) ⟨sh7, rfl, hrw11⟩
set_option maxRecDepth 20000 in
set_option maxHeartbeats 4000000 in
theorem cw_Suited1_leastGroup (d : Nat) {ty : Nat → Nat} {h : gH} (hJ : gJ rT 1027 ty h) (x : Nat) (tx : ty x = 92) (e : Int) (re : (-1) ≤ e ∧ e ≤ 256) (n : Int) (en : h.2.2.2.2 x 8 = .int (zi n)) (rn : 0 ≤ n ∧ n ≤ 257) (wt u w0 : Nat → Int) (uq : gUq ty) (hyf80 : gRn 257 ty 80 wt h) (hyf85 : gRn 257 ty 85 u h) (hyus : eUs w0 u n) (hyha : ∀ j9 : Nat, j9 < 257 → 0 < wt j9 → 0 < w0 j9) : gz gPP gGG gcn (d + 1) gt123 0 (gent [.ref x, .int (zi e)] 6) [] h (fun q _ => gSs rT 1027 ty [] h q.2.2 ∧ ∃ z : Int, gfin gt123 q.1 q.2.1 = some (some (.int (zi z))) ∧ 0 ≤ z ∧ z ≤ 256 ∧ (ehL wt e 257 < 0 → z = 0) ∧ (0 ≤ ehL wt e 257 → z = ehL wt e 257)) := by
  have hS : gSs rT 1027 ty [] h h := gSs.rf hJ
  refine gz_s 4 (pc' := 4) (L' := [some (.ref x), some (.int (zi e)), some (.int (zi (-1))), some (.int (zi 0)), none, none]) (S' := []) rfl ?_
  have lp1 : ∀ (fu : Nat) (h2 : gH) (ls : Int) (i : Int), (258 - i).toNat < fu → gSs rT 1027 ty [] h h2 → ((-1) ≤ ls ∧ ls ≤ 256) → (0 ≤ i ∧ i ≤ 257) → (i ≤ n) → (ls = ehL wt e (eNx u n i).toNat) → h2.2.2.2.2 x 8 = .int (zi n) → gRn 257 ty 80 wt h2 → gRn 257 ty 85 u h2 → eUs w0 u n → (∀ j9 : Nat, j9 < 257 → 0 < wt j9 → 0 < w0 j9) → gz gPP gGG gcn (d + 1) gt123 4 [some (.ref x), some (.int (zi e)), some (.int (zi ls)), some (.int (zi i)), none, none] [] h2 (fun q _ => gSs rT 1027 ty [] h q.2.2 ∧ ∃ z : Int, gfin gt123 q.1 q.2.1 = some (some (.int (zi z))) ∧ 0 ≤ z ∧ z ≤ 256 ∧ (ehL wt e 257 < 0 → z = 0) ∧ (0 ≤ ehL wt e 257 → z = ehL wt e 257)) := by
    intro fu
    induction fu with
    | zero => intro h2 ls i hm; exact absurd hm (Nat.not_lt_zero _)
    | succ fu ihlp1 =>
      intro h2 ls i lp1m sh2 lp1f0 lp1f1 lp1f2 lp1f3 lp1k0 lp1k1 lp1k2 lp1k3 lp1k4
      refine gz_s 2 (pc' := 6) (L' := [some (.ref x), some (.int (zi e)), some (.int (zi ls)), some (.int (zi i)), none, none]) (S' := [.ref x, .int (zi i)]) rfl ?_
      refine gs_gtk rfl (by decide) rfl sh2.1 tx rfl rfl lp1k0 ?_
      by_cases hc3 : (n : Int) ≤ i
      · refine gy_icT (pc' := 77) rfl (by decide) (by decide) (by omega) (by omega) hc3 ?_
        have hend : ehL wt e (eNx u n i).toNat = ehL wt e 257 := by rw [eNx_n (by omega)]; rfl
        refine gz_s 2 (pc' := 79) (L' := [some (.ref x), some (.int (zi e)), some (.int (zi ls)), some (.int (zi i)), none, none]) (S' := [.int (zi ls), .int (zi 0)]) rfl ?_
        refine gz_call rfl (by decide) rfl (by decide) (by decide) (gcal_of rfl rfl rfl (Nat.le_of_ble_eq_true rfl) rfl) (cl_Math_max _ sh2.1 0 ⟨by omega, by omega⟩ ls ⟨by omega, by omega⟩ ) (fun q4 _ wq4 => ?_)
        obtain ⟨pq4, oq4, hq4⟩ := q4
        obtain ⟨xq4, zq4, gq4, aq4, bq4, uq4_0, uq4_1, uq4_2⟩ := wq4
        refine ⟨_, gq4, ?_⟩
        show gz gPP gGG gcn _ _ 82 [some (.ref x), some (.int (zi e)), some (.int (zi ls)), some (.int (zi i)), none, none] [.int (zi zq4)] hq4 _
        have sq4 : gSs rT 1027 ty [] h hq4 := gSs.tr sh2 xq4 (by decide)
        have s5 := (xq4.2.2.2.2.2 x 8 (by rw [tx]; decide)).trans lp1k0
        have pr6 := gRn.fr xq4.2 (by decide) lp1k1
        have pr7 := gRn.fr xq4.2 (by decide) lp1k2
        exact gz_end (I := .ireturn) (len := 1) rfl (Or.inl rfl) ⟨sq4, zq4, rfl, (by omega), (by omega), (by omega), (by omega)⟩
      · refine gy_icF rfl (by decide) (by decide) (by omega) (by omega) hc3 ?_
        refine gz_s 1 (pc' := 13) (L' := [some (.ref x), some (.int (zi e)), some (.int (zi ls)), some (.int (zi i)), none, none]) (S' := [.ref x]) rfl ?_
        refine gs_gtr rfl (by decide) rfl sh2.1 tx rfl rfl rfl (fun c8 ec8 tc8 => ?_)
        refine gz_s 1 (pc' := 17) (L' := [some (.ref x), some (.int (zi e)), some (.int (zi ls)), some (.int (zi i)), none, none]) (S' := [.int (zi i), .ref c8]) rfl ?_
        have hl9 : 257 ≤ h2.2.2.2.1 c8 ∧ h2.2.2.2.1 c8 ≤ 257 := gJ.rowl (G := gGG) sh2.1 tc8 rfl
        refine gs_ald rfl (by decide) sh2.1 tc8 rfl rfl rfl (by decide) (fun _ => rfl) (by omega) (by omega) (fun z10 ez10 az10 bz10 => ?_)
        have hf11 := gRn.at (i := i) (z := z10) lp1k2 tc8 ez10 (by omega) (by omega) (by omega)
        have hnw := eNx_w lp1k3 (by omega) (by omega) hf11
        refine gz_s 2 (pc' := 21) (L' := [some (.ref x), some (.int (zi e)), some (.int (zi ls)), some (.int (zi i)), some (.int (zi z10)), none]) (S' := [.ref x]) rfl ?_
        refine gs_gtr rfl (by decide) rfl sh2.1 tx rfl rfl rfl (fun c12 ec12 tc12 => ?_)
        refine gz_s 1 (pc' := 26) (L' := [some (.ref x), some (.int (zi e)), some (.int (zi ls)), some (.int (zi i)), some (.int (zi z10)), none]) (S' := [.int (zi z10), .ref c12]) rfl ?_
        have hl13 : 257 ≤ h2.2.2.2.1 c12 ∧ h2.2.2.2.1 c12 ≤ 257 := gJ.rowl (G := gGG) sh2.1 tc12 rfl
        refine gs_ald rfl (by decide) sh2.1 tc12 rfl rfl rfl (by decide) (fun _ => rfl) (by omega) (by omega) (fun z14 ez14 az14 bz14 => ?_)
        have hf15 := gRn.at (i := z10) (z := z14) lp1k1 tc12 ez14 (by omega) (by omega) (by omega)
        have jn16 : ∀ (jn16v0 : Int), ((0 ≤ jn16v0) ∧ (jn16v0 ≤ 1) ∧ (jn16v0 = 1 → (0 < z14 ∧ ¬ z10 = e)) ∧ (jn16v0 = 0 → (z14 ≤ 0 ∨ z10 = e))) → gz gPP gGG gcn (d + 1) gt123 41 [some (.ref x), some (.int (zi e)), some (.int (zi ls)), some (.int (zi i)), some (.int (zi z10)), none] [.int (zi jn16v0)] h2 (fun q _ => gSs rT 1027 ty [] h q.2.2 ∧ ∃ z : Int, gfin gt123 q.1 q.2.1 = some (some (.int (zi z))) ∧ 0 ≤ z ∧ z ≤ 256 ∧ (ehL wt e 257 < 0 → z = 0) ∧ (0 ≤ ehL wt e 257 → z = ehL wt e 257)) := by
          intro jn16v0 jn16d
          refine gz_s 2 (pc' := 45) (L' := [some (.ref x), some (.int (zi e)), some (.int (zi ls)), some (.int (zi i)), some (.int (zi z10)), some (.int (zi jn16v0))]) (S' := [.int (zi jn16v0)]) rfl ?_
          by_cases hc17 : (jn16v0 : Int) = 0
          · refine gy_ifT (pc' := 71) rfl (by decide) (by decide) (by omega) hc17 ?_
            have hst := eLg_st (w := wt) (e := e) (z := z10) (ls := ls) lp1k3 lp1k4 (by omega) (by omega) hf11 (by omega)
            rw [if_neg (by omega)] at hst
            refine gy_s 2 (pc' := 4) (L' := [some (.ref x), some (.int (zi e)), some (.int (zi ls)), some (.int ((zi i) + zi 1)), some (.int (zi z10)), some (.int (zi jn16v0))]) (S' := []) (L2 := [some (.ref x), some (.int (zi e)), some (.int (zi ls)), some (.int (zi (i + 1))), some (.int (zi z10)), some (.int (zi jn16v0))]) (S2 := []) rfl (by simp only [zi_add, zi_sub, zi_mul, zi_neg, zi_and1, zi_and7, zi_and15, zi_and31, zi_and255]) (by simp only [zi_add, zi_sub, zi_mul, zi_neg, zi_and1, zi_and7, zi_and15, zi_and31, zi_and255]) ?_
            exact gz_wk (ihlp1 h2 ls (i + 1) (by omega) sh2 (by omega) (by omega) (by omega) (by omega) lp1k0 lp1k1 lp1k2 lp1k3 lp1k4) (gLw.s (gLw.s (gLw.s (gLw.s (gLw.n (gLw.n gLw.z))))))
          · refine gy_ifF rfl (by decide) (by decide) (by omega) hc17 ?_
            refine gz_s 1 (pc' := 49) (L' := [some (.ref x), some (.int (zi e)), some (.int (zi ls)), some (.int (zi i)), some (.int (zi z10)), some (.int (zi jn16v0))]) (S' := [.int (zi ls)]) rfl ?_
            by_cases hc18 : (ls : Int) < 0
            · refine gy_ifT (pc' := 68) rfl (by decide) (by decide) (by omega) hc18 ?_
              refine gz_s 2 (pc' := 71) (L' := [some (.ref x), some (.int (zi e)), some (.int (zi z10)), some (.int (zi i)), some (.int (zi z10)), some (.int (zi jn16v0))]) (S' := []) rfl ?_
              have hst := eLg_st (w := wt) (e := e) (z := z10) (ls := ls) lp1k3 lp1k4 (by omega) (by omega) hf11 (by omega)
              rw [if_pos ⟨⟨by omega, by omega⟩, by omega⟩] at hst
              refine gy_s 2 (pc' := 4) (L' := [some (.ref x), some (.int (zi e)), some (.int (zi z10)), some (.int ((zi i) + zi 1)), some (.int (zi z10)), some (.int (zi jn16v0))]) (S' := []) (L2 := [some (.ref x), some (.int (zi e)), some (.int (zi z10)), some (.int (zi (i + 1))), some (.int (zi z10)), some (.int (zi jn16v0))]) (S2 := []) rfl (by simp only [zi_add, zi_sub, zi_mul, zi_neg, zi_and1, zi_and7, zi_and15, zi_and31, zi_and255]) (by simp only [zi_add, zi_sub, zi_mul, zi_neg, zi_and1, zi_and7, zi_and15, zi_and31, zi_and255]) ?_
              exact gz_wk (ihlp1 h2 z10 (i + 1) (by omega) sh2 (by omega) (by omega) (by omega) (by omega) lp1k0 lp1k1 lp1k2 lp1k3 lp1k4) (gLw.s (gLw.s (gLw.s (gLw.s (gLw.n (gLw.n gLw.z))))))
            · refine gy_ifF rfl (by decide) (by decide) (by omega) hc18 ?_
              refine gz_s 1 (pc' := 53) (L' := [some (.ref x), some (.int (zi e)), some (.int (zi ls)), some (.int (zi i)), some (.int (zi z10)), some (.int (zi jn16v0))]) (S' := [.ref x]) rfl ?_
              refine gs_gtk rfl (by decide) rfl sh2.1 tx rfl rfl ec12 ?_
              refine gz_s 1 (pc' := 58) (L' := [some (.ref x), some (.int (zi e)), some (.int (zi ls)), some (.int (zi i)), some (.int (zi z10)), some (.int (zi jn16v0))]) (S' := [.int (zi z10), .ref c12]) rfl ?_
              have hl19 : 257 ≤ h2.2.2.2.1 c12 ∧ h2.2.2.2.1 c12 ≤ 257 := gJ.rowl (G := gGG) sh2.1 tc12 rfl
              refine gs_ald rfl (by decide) sh2.1 tc12 rfl rfl rfl (by decide) (fun _ => rfl) (by omega) (by omega) (fun z20 ez20 az20 bz20 => ?_)
              have hf21 := gRn.at (i := z10) (z := z20) lp1k1 tc12 ez20 (by omega) (by omega) (by omega)
              refine gz_s 1 (pc' := 60) (L' := [some (.ref x), some (.int (zi e)), some (.int (zi ls)), some (.int (zi i)), some (.int (zi z10)), some (.int (zi jn16v0))]) (S' := [.ref x, .int (zi z20)]) rfl ?_
              refine gs_gtk rfl (by decide) rfl sh2.1 tx rfl rfl ec12 ?_
              refine gz_s 1 (pc' := 64) (L' := [some (.ref x), some (.int (zi e)), some (.int (zi ls)), some (.int (zi i)), some (.int (zi z10)), some (.int (zi jn16v0))]) (S' := [.int (zi ls), .ref c12, .int (zi z20)]) rfl ?_
              have hl22 : 257 ≤ h2.2.2.2.1 c12 ∧ h2.2.2.2.1 c12 ≤ 257 := gJ.rowl (G := gGG) sh2.1 tc12 rfl
              refine gs_ald rfl (by decide) sh2.1 tc12 rfl rfl rfl (by decide) (fun _ => rfl) (by omega) (by omega) (fun z23 ez23 az23 bz23 => ?_)
              have hf24 := gRn.at (i := ls) (z := z23) lp1k1 tc12 ez23 (by omega) (by omega) (by omega)
              by_cases hc25 : (z23 : Int) < z20
              · refine gy_icT (pc' := 71) rfl (by decide) (by decide) (by omega) (by omega) hc25 ?_
                have hst := eLg_st (w := wt) (e := e) (z := z10) (ls := ls) lp1k3 lp1k4 (by omega) (by omega) hf11 (by omega)
                rw [if_neg (by omega)] at hst
                refine gy_s 2 (pc' := 4) (L' := [some (.ref x), some (.int (zi e)), some (.int (zi ls)), some (.int ((zi i) + zi 1)), some (.int (zi z10)), some (.int (zi jn16v0))]) (S' := []) (L2 := [some (.ref x), some (.int (zi e)), some (.int (zi ls)), some (.int (zi (i + 1))), some (.int (zi z10)), some (.int (zi jn16v0))]) (S2 := []) rfl (by simp only [zi_add, zi_sub, zi_mul, zi_neg, zi_and1, zi_and7, zi_and15, zi_and31, zi_and255]) (by simp only [zi_add, zi_sub, zi_mul, zi_neg, zi_and1, zi_and7, zi_and15, zi_and31, zi_and255]) ?_
                exact gz_wk (ihlp1 h2 ls (i + 1) (by omega) sh2 (by omega) (by omega) (by omega) (by omega) lp1k0 lp1k1 lp1k2 lp1k3 lp1k4) (gLw.s (gLw.s (gLw.s (gLw.s (gLw.n (gLw.n gLw.z))))))
              · refine gy_icF rfl (by decide) (by decide) (by omega) (by omega) hc25 ?_
                refine gz_s 2 (pc' := 71) (L' := [some (.ref x), some (.int (zi e)), some (.int (zi z10)), some (.int (zi i)), some (.int (zi z10)), some (.int (zi jn16v0))]) (S' := []) rfl ?_
                have hst := eLg_st (w := wt) (e := e) (z := z10) (ls := ls) lp1k3 lp1k4 (by omega) (by omega) hf11 (by omega)
                rw [if_pos ⟨⟨by omega, by omega⟩, by omega⟩] at hst
                refine gy_s 2 (pc' := 4) (L' := [some (.ref x), some (.int (zi e)), some (.int (zi z10)), some (.int ((zi i) + zi 1)), some (.int (zi z10)), some (.int (zi jn16v0))]) (S' := []) (L2 := [some (.ref x), some (.int (zi e)), some (.int (zi z10)), some (.int (zi (i + 1))), some (.int (zi z10)), some (.int (zi jn16v0))]) (S2 := []) rfl (by simp only [zi_add, zi_sub, zi_mul, zi_neg, zi_and1, zi_and7, zi_and15, zi_and31, zi_and255]) (by simp only [zi_add, zi_sub, zi_mul, zi_neg, zi_and1, zi_and7, zi_and15, zi_and31, zi_and255]) ?_
                exact gz_wk (ihlp1 h2 z10 (i + 1) (by omega) sh2 (by omega) (by omega) (by omega) (by omega) lp1k0 lp1k1 lp1k2 lp1k3 lp1k4) (gLw.s (gLw.s (gLw.s (gLw.s (gLw.n (gLw.n gLw.z))))))
        by_cases hc26 : (z14 : Int) ≤ 0
        · refine gy_ifT (pc' := 40) rfl (by decide) (by decide) (by omega) hc26 ?_
          refine gz_s 1 (pc' := 41) (L' := [some (.ref x), some (.int (zi e)), some (.int (zi ls)), some (.int (zi i)), some (.int (zi z10)), none]) (S' := [.int (zi 0)]) rfl ?_
          exact jn16 0 (by omega)
        · refine gy_ifF rfl (by decide) (by decide) (by omega) hc26 ?_
          refine gz_s 2 (pc' := 33) (L' := [some (.ref x), some (.int (zi e)), some (.int (zi ls)), some (.int (zi i)), some (.int (zi z10)), none]) (S' := [.int (zi e), .int (zi z10)]) rfl ?_
          by_cases hc27 : (z10 : Int) = e
          · refine gy_icT (pc' := 40) rfl (by decide) (by decide) (by omega) (by omega) hc27 ?_
            refine gz_s 1 (pc' := 41) (L' := [some (.ref x), some (.int (zi e)), some (.int (zi ls)), some (.int (zi i)), some (.int (zi z10)), none]) (S' := [.int (zi 0)]) rfl ?_
            exact jn16 0 (by omega)
          · refine gy_icF rfl (by decide) (by decide) (by omega) (by omega) hc27 ?_
            refine gz_s 2 (pc' := 41) (L' := [some (.ref x), some (.int (zi e)), some (.int (zi ls)), some (.int (zi i)), some (.int (zi z10)), none]) (S' := [.int (zi 1)]) rfl ?_
            exact jn16 1 (by omega)
  have hl0 := eLg_0 (w := wt) (e := e) hyus hyha
  exact gz_wk (lp1 _ h (-1) 0 (Nat.lt_succ_self _) hS (by omega) (by omega) (by omega) (by omega) en hyf80 hyf85 hyus hyha) (gLw.s (gLw.s (gLw.s (gLw.s (gLw.n (gLw.n gLw.z))))))
set_option maxRecDepth 20000 in
set_option maxHeartbeats 4000000 in
theorem cw_Suited1_joinGroups (d : Nat) {ty : Nat → Nat} {h : gH} (hJ : gJ rT 1027 ty h) (x : Nat) (tx : ty x = 92) (a : Int) (ra : 0 ≤ a ∧ a ≤ 256) (b : Int) (rb : 0 ≤ b ∧ b ≤ 256) (n : Int) (en : h.2.2.2.2 x 8 = .int (zi n)) (rn : 0 ≤ n ∧ n ≤ 257) (w g l u w0 : Nat → Int) (pp0 : ¬ a = b) (uq : gUq ty) (hyf80 : gRn 257 ty 80 w h) (hyf81 : gRn 257 ty 81 g h) (hyf79 : gRn 257 ty 79 l h) (hyf85 : gRn 257 ty 85 u h) (hyus : eUs w0 u n) (hyhu : ∀ j9 : Nat, j9 < 257 → ¬ 0 < w0 j9 → ¬ (g j9 = a ∨ g j9 = b)) (hywm : ∀ j9 : Nat, j9 < 257 → 0 ≤ w j9 ∧ w j9 ≤ 1000000) (hylm : ∀ j9 : Nat, j9 < 257 → 0 ≤ l j9 ∧ l j9 ≤ 200) : gz gPP gGG gcn (d + 1) gt124 0 (gent [.ref x, .int (zi a), .int (zi b)] 7) [] h (fun q _ => gSs rT 1027 ty [79999, 80999, 81999] h q.2.2 ∧ gfin gt124 q.1 q.2.1 = some none ∧ (gRn 257 ty 80 ((ehJ a.toNat b.toNat (w, g, l)).1) q.2.2) ∧ (gRn 257 ty 81 ((ehJ a.toNat b.toNat (w, g, l)).2.1) q.2.2) ∧ (gRn 257 ty 79 ((ehJ a.toNat b.toNat (w, g, l)).2.2) q.2.2)) := by
  have hS : gSs rT 1027 ty [79999, 80999, 81999] h h := gSs.rf hJ
  refine gz_s 2 (pc' := 2) (L' := [some (.ref x), some (.int (zi a)), some (.int (zi b)), none, none, none, none]) (S' := [.int (zi b), .int (zi a)]) rfl ?_
  refine gz_call rfl (by decide) rfl (by decide) (by decide) (gcal_of rfl rfl rfl (Nat.le_of_ble_eq_true rfl) rfl) (cl_Math_max _ hS.1 a ⟨by omega, by omega⟩ b ⟨by omega, by omega⟩ ) (fun q1 _ wq1 => ?_)
  obtain ⟨pq1, oq1, hq1⟩ := q1
  obtain ⟨xq1, zq1, gq1, aq1, bq1, uq1_0, uq1_1, uq1_2⟩ := wq1
  refine ⟨_, gq1, ?_⟩
  show gz gPP gGG gcn _ _ 5 [some (.ref x), some (.int (zi a)), some (.int (zi b)), none, none, none, none] [.int (zi zq1)] hq1 _
  have sq1 : gSs rT 1027 ty [79999, 80999, 81999] h hq1 := gSs.tr hS xq1 (by decide)
  have s2 := (xq1.2.2.2.2.2 x 8 (by rw [tx]; decide)).trans en
  have pr3 := gRn.fr xq1.2 (by decide) hyf80
  have pr4 := gRn.fr xq1.2 (by decide) hyf81
  have pr5 := gRn.fr xq1.2 (by decide) hyf79
  have pr6 := gRn.fr xq1.2 (by decide) hyf85
  refine gz_s 2 (pc' := 7) (L' := [some (.ref x), some (.int (zi a)), some (.int (zi b)), some (.int (zi zq1)), none, none, none]) (S' := [.ref x]) rfl ?_
  refine gs_gtr rfl (by decide) rfl sq1.1 tx rfl rfl rfl (fun c7 ec7 tc7 => ?_)
  refine gz_s 1 (pc' := 11) (L' := [some (.ref x), some (.int (zi a)), some (.int (zi b)), some (.int (zi zq1)), none, none, none]) (S' := [.int (zi a), .ref c7]) rfl ?_
  have hl8 : 257 ≤ hq1.2.2.2.1 c7 ∧ hq1.2.2.2.1 c7 ≤ 257 := gJ.rowl (G := gGG) sq1.1 tc7 rfl
  refine gs_ald rfl (by decide) sq1.1 tc7 rfl rfl rfl (by decide) (fun _ => rfl) (by omega) (by omega) (fun z9 ez9 az9 bz9 => ?_)
  have hf10 := gRn.at (i := a) (z := z9) pr3 tc7 ez9 (by omega) (by omega) (by omega)
  have hb11 := hywm (a).toNat (by omega)
  rw [hf10] at hb11
  refine gz_s 1 (pc' := 13) (L' := [some (.ref x), some (.int (zi a)), some (.int (zi b)), some (.int (zi zq1)), none, none, none]) (S' := [.ref x, .int (zi z9)]) rfl ?_
  refine gs_gtk rfl (by decide) rfl sq1.1 tx rfl rfl ec7 ?_
  refine gz_s 1 (pc' := 17) (L' := [some (.ref x), some (.int (zi a)), some (.int (zi b)), some (.int (zi zq1)), none, none, none]) (S' := [.int (zi b), .ref c7, .int (zi z9)]) rfl ?_
  have hl12 : 257 ≤ hq1.2.2.2.1 c7 ∧ hq1.2.2.2.1 c7 ≤ 257 := gJ.rowl (G := gGG) sq1.1 tc7 rfl
  refine gs_ald rfl (by decide) sq1.1 tc7 rfl rfl rfl (by decide) (fun _ => rfl) (by omega) (by omega) (fun z13 ez13 az13 bz13 => ?_)
  have hf14 := gRn.at (i := b) (z := z13) pr3 tc7 ez13 (by omega) (by omega) (by omega)
  have hb15 := hywm (b).toNat (by omega)
  rw [hf14] at hb15
  refine gy_s 3 (pc' := 22) (L' := [some (.ref x), some (.int (zi a)), some (.int (zi b)), some (.int (zi zq1)), some (.int ((zi z9) + (zi z13))), none, none]) (S' := [.ref x]) (L2 := [some (.ref x), some (.int (zi a)), some (.int (zi b)), some (.int (zi zq1)), some (.int (zi (z9 + z13))), none, none]) (S2 := [.ref x]) rfl (by simp only [zi_add, zi_sub, zi_mul, zi_neg, zi_and1, zi_and7, zi_and15, zi_and31, zi_and255]) (by simp only [zi_add, zi_sub, zi_mul, zi_neg, zi_and1, zi_and7, zi_and15, zi_and31, zi_and255]) ?_
  refine gs_gtk rfl (by decide) rfl sq1.1 tx rfl rfl ec7 ?_
  refine gz_s 2 (pc' := 27) (L' := [some (.ref x), some (.int (zi a)), some (.int (zi b)), some (.int (zi zq1)), some (.int (zi (z9 + z13))), none, none]) (S' := [.int (zi 0), .int (zi a), .ref c7]) rfl ?_
  have hl16 : 257 ≤ hq1.2.2.2.1 c7 ∧ hq1.2.2.2.1 c7 ≤ 257 := gJ.rowl (G := gGG) sq1.1 tc7 rfl
  refine gs_ast rfl (by decide) sq1 tc7 rfl rfl rfl (by decide) (fun _ => rfl) (by omega) (by omega) (fun _ => (by decide : (80999 : Nat) ∈ ([79999, 80999, 81999] : List Nat))) (by omega) (by omega) (fun h17 sh17 eh17 fh17 => ?_)
  have pr18 := gRn.put (i := a) (z := 0) uq tc7 (by decide) fh17 eh17 (by omega) (by omega) pr3
  have pr19 := gRn.pt fh17 tc7 (by decide) pr4
  have pr20 := gRn.pt fh17 tc7 (by decide) pr5
  have pr21 := gRn.pt fh17 tc7 (by decide) pr6
  have s22 := (fh17 x 8 (fun q => absurd (((tx).symm.trans (congrArg ty q.1)).trans tc7) (by decide))).trans s2
  have s23 := (fh17 x 5 (fun q => absurd (((tx).symm.trans (congrArg ty q.1)).trans tc7) (by decide))).trans ec7
  have pr24 := gEl.set (i := a) (z := 0) uq tc7 (by decide) eh17 (by omega) (by omega)
  refine gz_s 1 (pc' := 29) (L' := [some (.ref x), some (.int (zi a)), some (.int (zi b)), some (.int (zi zq1)), some (.int (zi (z9 + z13))), none, none]) (S' := [.ref x]) rfl ?_
  refine gs_gtk rfl (by decide) rfl sh17.1 tx rfl rfl s23 ?_
  refine gz_s 2 (pc' := 34) (L' := [some (.ref x), some (.int (zi a)), some (.int (zi b)), some (.int (zi zq1)), some (.int (zi (z9 + z13))), none, none]) (S' := [.int (zi 0), .int (zi b), .ref c7]) rfl ?_
  have hl25 : 257 ≤ h17.2.2.2.1 c7 ∧ h17.2.2.2.1 c7 ≤ 257 := gJ.rowl (G := gGG) sh17.1 tc7 rfl
  refine gs_ast rfl (by decide) sh17 tc7 rfl rfl rfl (by decide) (fun _ => rfl) (by omega) (by omega) (fun _ => (by decide : (80999 : Nat) ∈ ([79999, 80999, 81999] : List Nat))) (by omega) (by omega) (fun h26 sh26 eh26 fh26 => ?_)
  have pr27 := gRn.put (i := b) (z := 0) uq tc7 (by decide) fh26 eh26 (by omega) (by omega) pr18
  have pr28 := gRn.pt fh26 tc7 (by decide) pr19
  have pr29 := gRn.pt fh26 tc7 (by decide) pr20
  have pr30 := gRn.pt fh26 tc7 (by decide) pr21
  have s31 := (fh26 x 8 (fun q => absurd (((tx).symm.trans (congrArg ty q.1)).trans tc7) (by decide))).trans s22
  have s32 := (fh26 x 5 (fun q => absurd (((tx).symm.trans (congrArg ty q.1)).trans tc7) (by decide))).trans s23
  have pr33 := gEl.set (i := b) (z := 0) uq tc7 (by decide) eh26 (by omega) (by omega)
  refine gz_s 1 (pc' := 36) (L' := [some (.ref x), some (.int (zi a)), some (.int (zi b)), some (.int (zi zq1)), some (.int (zi (z9 + z13))), none, none]) (S' := [.ref x]) rfl ?_
  refine gs_gtk rfl (by decide) rfl sh26.1 tx rfl rfl s32 ?_
  refine gz_s 2 (pc' := 42) (L' := [some (.ref x), some (.int (zi a)), some (.int (zi b)), some (.int (zi zq1)), some (.int (zi (z9 + z13))), none, none]) (S' := [.int (zi (z9 + z13)), .int (zi zq1), .ref c7]) rfl ?_
  have hl34 : 257 ≤ h26.2.2.2.1 c7 ∧ h26.2.2.2.1 c7 ≤ 257 := gJ.rowl (G := gGG) sh26.1 tc7 rfl
  refine gs_ast rfl (by decide) sh26 tc7 rfl rfl rfl (by decide) (fun _ => rfl) (by omega) (by omega) (fun _ => (by decide : (80999 : Nat) ∈ ([79999, 80999, 81999] : List Nat))) (by omega) (by omega) (fun h35 sh35 eh35 fh35 => ?_)
  have pr36 := gRn.put (i := zq1) (z := z9 + z13) uq tc7 (by decide) fh35 eh35 (by omega) (by omega) pr27
  have pr37 := gRn.pt fh35 tc7 (by decide) pr28
  have pr38 := gRn.pt fh35 tc7 (by decide) pr29
  have pr39 := gRn.pt fh35 tc7 (by decide) pr30
  have s40 := (fh35 x 8 (fun q => absurd (((tx).symm.trans (congrArg ty q.1)).trans tc7) (by decide))).trans s31
  have s41 := (fh35 x 5 (fun q => absurd (((tx).symm.trans (congrArg ty q.1)).trans tc7) (by decide))).trans s32
  have pr42 := gEl.set (i := zq1) (z := z9 + z13) uq tc7 (by decide) eh35 (by omega) (by omega)
  have hrw43 : gRn 257 ty 80 ((ehJ a.toNat b.toNat (w, g, l)).1) h35 := gRn.cg (eJ_w (by omega) (by omega) (by omega) (by omega) (by have h8 := hf10; have h9 := hf14; omega)) pr36
  refine gz_s 2 (pc' := 46) (L' := [some (.ref x), some (.int (zi a)), some (.int (zi b)), some (.int (zi zq1)), some (.int (zi (z9 + z13))), some (.int (zi 0)), none]) (S' := []) rfl ?_
  have lp44 : ∀ (fu : Nat) (h45 : gH) (i : Int), (258 - i).toNat < fu → gSs rT 1027 ty [79999, 80999, 81999] h h45 → (0 ≤ i ∧ i ≤ 257) → (i ≤ n) → h45.2.2.2.2 x 8 = .int (zi n) → h45.2.2.2.2 x 5 = .ref c7 → gRn 257 ty 80 ((ehJ a.toNat b.toNat (w, g, l)).1) h45 → gRn 257 ty 85 u h45 → eUs w0 u n → (∀ j9 : Nat, j9 < 257 → ¬ 0 < w0 j9 → ¬ (g j9 = a ∨ g j9 = b)) → (∀ j9 : Nat, j9 < 257 → 0 ≤ w j9 ∧ w j9 ≤ 1000000) → (∀ j9 : Nat, j9 < 257 → 0 ≤ l j9 ∧ l j9 ≤ 200) → gEl ty 80 zq1 (z9 + z13) (z9 + z13) h45 → gRn 257 ty 81 (eJg a b g (eNx u n i)) h45 → gRn 257 ty 79 (eJl a b g l (eNx u n i)) h45 → gz gPP gGG gcn (d + 1) gt124 46 [some (.ref x), some (.int (zi a)), some (.int (zi b)), some (.int (zi zq1)), some (.int (zi (z9 + z13))), some (.int (zi i)), none] [] h45 (fun q _ => gSs rT 1027 ty [79999, 80999, 81999] h q.2.2 ∧ gfin gt124 q.1 q.2.1 = some none ∧ (gRn 257 ty 80 ((ehJ a.toNat b.toNat (w, g, l)).1) q.2.2) ∧ (gRn 257 ty 81 ((ehJ a.toNat b.toNat (w, g, l)).2.1) q.2.2) ∧ (gRn 257 ty 79 ((ehJ a.toNat b.toNat (w, g, l)).2.2) q.2.2)) := by
    intro fu
    induction fu with
    | zero => intro h45 i hm; exact absurd hm (Nat.not_lt_zero _)
    | succ fu ihlp44 =>
      intro h45 i lp44m sh45 lp44f0 lp44f1 lp44k0 lp44k1 lp44k2 lp44k3 lp44k4 lp44k5 lp44k6 lp44k7 lp44k8 lp44k9 lp44k10
      refine gz_s 2 (pc' := 49) (L' := [some (.ref x), some (.int (zi a)), some (.int (zi b)), some (.int (zi zq1)), some (.int (zi (z9 + z13))), some (.int (zi i)), none]) (S' := [.ref x, .int (zi i)]) rfl ?_
      refine gs_gtk rfl (by decide) rfl sh45.1 tx rfl rfl lp44k0 ?_
      by_cases hc46 : (n : Int) ≤ i
      · refine gy_icT (pc' := 111) rfl (by decide) (by decide) (by omega) (by omega) hc46 ?_
        have hrw47 : gRn 257 ty 81 ((ehJ a.toNat b.toNat (w, g, l)).2.1) h45 := gRn.cg (eJ_fin (w := w) (l := l) (by omega) (by omega) (eNx_n (by omega))).1 lp44k9
        have hrw48 : gRn 257 ty 79 ((ehJ a.toNat b.toNat (w, g, l)).2.2) h45 := gRn.cg (eJ_fin (w := w) (g := g) (by omega) (by omega) (eNx_n (by omega))).2 lp44k10
        exact gz_end (I := .return_) (len := 1) rfl (Or.inl rfl) ⟨sh45, rfl, lp44k2, hrw47, hrw48⟩
      · refine gy_icF rfl (by decide) (by decide) (by omega) (by omega) hc46 ?_
        refine gz_s 1 (pc' := 56) (L' := [some (.ref x), some (.int (zi a)), some (.int (zi b)), some (.int (zi zq1)), some (.int (zi (z9 + z13))), some (.int (zi i)), none]) (S' := [.ref x]) rfl ?_
        refine gs_gtr rfl (by decide) rfl sh45.1 tx rfl rfl rfl (fun c49 ec49 tc49 => ?_)
        refine gz_s 1 (pc' := 61) (L' := [some (.ref x), some (.int (zi a)), some (.int (zi b)), some (.int (zi zq1)), some (.int (zi (z9 + z13))), some (.int (zi i)), none]) (S' := [.int (zi i), .ref c49]) rfl ?_
        have hl50 : 257 ≤ h45.2.2.2.1 c49 ∧ h45.2.2.2.1 c49 ≤ 257 := gJ.rowl (G := gGG) sh45.1 tc49 rfl
        refine gs_ald rfl (by decide) sh45.1 tc49 rfl rfl rfl (by decide) (fun _ => rfl) (by omega) (by omega) (fun z51 ez51 az51 bz51 => ?_)
        have hf52 := gRn.at (i := i) (z := z51) lp44k3 tc49 ez51 (by omega) (by omega) (by omega)
        have hnw := eNx_w lp44k4 (by omega) (by omega) hf52
        have hnx := eNx_at (u := u) (n := n) (i := i) (z := z51) (by omega) hf52
        refine gz_s 2 (pc' := 65) (L' := [some (.ref x), some (.int (zi a)), some (.int (zi b)), some (.int (zi zq1)), some (.int (zi (z9 + z13))), some (.int (zi i)), some (.int (zi z51))]) (S' := [.ref x]) rfl ?_
        refine gs_gtr rfl (by decide) rfl sh45.1 tx rfl rfl rfl (fun c53 ec53 tc53 => ?_)
        refine gz_s 1 (pc' := 70) (L' := [some (.ref x), some (.int (zi a)), some (.int (zi b)), some (.int (zi zq1)), some (.int (zi (z9 + z13))), some (.int (zi i)), some (.int (zi z51))]) (S' := [.int (zi z51), .ref c53]) rfl ?_
        have hl54 : 257 ≤ h45.2.2.2.1 c53 ∧ h45.2.2.2.1 c53 ≤ 257 := gJ.rowl (G := gGG) sh45.1 tc53 rfl
        refine gs_ald rfl (by decide) sh45.1 tc53 rfl rfl rfl (by decide) (fun _ => rfl) (by omega) (by omega) (fun z55 ez55 az55 bz55 => ?_)
        have hf56 := gRn.at (i := z51) (z := z55) lp44k9 tc53 ez55 (by omega) (by omega) (by omega)
        have hg57 : g (z51).toNat = z55 := (eJg_at (by omega) (by omega)).symm.trans hf56
        refine gz_s 1 (pc' := 72) (L' := [some (.ref x), some (.int (zi a)), some (.int (zi b)), some (.int (zi zq1)), some (.int (zi (z9 + z13))), some (.int (zi i)), some (.int (zi z51))]) (S' := [.int (zi a), .int (zi z55)]) rfl ?_
        by_cases hc58 : (z55 : Int) = a
        · refine gy_icT (pc' := 86) rfl (by decide) (by decide) (by omega) (by omega) hc58 ?_
          refine gz_s 1 (pc' := 87) (L' := [some (.ref x), some (.int (zi a)), some (.int (zi b)), some (.int (zi zq1)), some (.int (zi (z9 + z13))), some (.int (zi i)), some (.int (zi z51))]) (S' := [.ref x]) rfl ?_
          refine gs_gtk rfl (by decide) rfl sh45.1 tx rfl rfl ec53 ?_
          refine gz_s 2 (pc' := 93) (L' := [some (.ref x), some (.int (zi a)), some (.int (zi b)), some (.int (zi zq1)), some (.int (zi (z9 + z13))), some (.int (zi i)), some (.int (zi z51))]) (S' := [.int (zi zq1), .int (zi z51), .ref c53]) rfl ?_
          have hl59 : 257 ≤ h45.2.2.2.1 c53 ∧ h45.2.2.2.1 c53 ≤ 257 := gJ.rowl (G := gGG) sh45.1 tc53 rfl
          refine gs_ast rfl (by decide) sh45 tc53 rfl rfl rfl (by decide) (fun _ => rfl) (by omega) (by omega) (fun _ => (by decide : (81999 : Nat) ∈ ([79999, 80999, 81999] : List Nat))) (by omega) (by omega) (fun h60 sh60 eh60 fh60 => ?_)
          have pr61 := gRn.pt fh60 tc53 (by decide) lp44k2
          have pr62 := gRn.pt fh60 tc53 (by decide) lp44k3
          have pr63 := gEl.pt fh60 tc53 (by decide) lp44k8
          have pr64 := gRn.put (i := z51) (z := zq1) uq tc53 (by decide) fh60 eh60 (by omega) (by omega) lp44k9
          have pr65 := gRn.pt fh60 tc53 (by decide) lp44k10
          have s66 := (fh60 x 8 (fun q => absurd (((tx).symm.trans (congrArg ty q.1)).trans tc53) (by decide))).trans lp44k0
          have s67 := (fh60 x 5 (fun q => absurd (((tx).symm.trans (congrArg ty q.1)).trans tc53) (by decide))).trans lp44k1
          have s68 := (fh60 x 7 (fun q => absurd (((tx).symm.trans (congrArg ty q.1)).trans tc53) (by decide))).trans ec49
          have s69 := (fh60 x 6 (fun q => absurd (((tx).symm.trans (congrArg ty q.1)).trans tc53) (by decide))).trans ec53
          have pr70 := gEl.set (i := z51) (z := zq1) uq tc53 (by decide) eh60 (by omega) (by omega)
          refine gz_s 1 (pc' := 95) (L' := [some (.ref x), some (.int (zi a)), some (.int (zi b)), some (.int (zi zq1)), some (.int (zi (z9 + z13))), some (.int (zi i)), some (.int (zi z51))]) (S' := [.ref x]) rfl ?_
          refine gs_gtr rfl (by decide) rfl sh60.1 tx rfl rfl rfl (fun c71 ec71 tc71 => ?_)
          refine gz_s 2 (pc' := 101) (L' := [some (.ref x), some (.int (zi a)), some (.int (zi b)), some (.int (zi zq1)), some (.int (zi (z9 + z13))), some (.int (zi i)), some (.int (zi z51))]) (S' := [.int (zi z51), .ref c71, .int (zi z51), .ref c71]) rfl ?_
          have hl72 : 257 ≤ h60.2.2.2.1 c71 ∧ h60.2.2.2.1 c71 ≤ 257 := gJ.rowl (G := gGG) sh60.1 tc71 rfl
          refine gs_ald rfl (by decide) sh60.1 tc71 rfl rfl rfl (by decide) (fun _ => rfl) (by omega) (by omega) (fun z73 ez73 az73 bz73 => ?_)
          have hf74 := gRn.at (i := z51) (z := z73) pr65 tc71 ez73 (by omega) (by omega) (by omega)
          have hl1 : l (z51).toNat = z73 := (eJl_at (by omega) (by omega)).symm.trans hf74
          have hlb := lp44k7 (z51).toNat (by omega)
          rw [hl1] at hlb
          refine gy_s 2 (pc' := 104) (L' := [some (.ref x), some (.int (zi a)), some (.int (zi b)), some (.int (zi zq1)), some (.int (zi (z9 + z13))), some (.int (zi i)), some (.int (zi z51))]) (S' := [.int ((zi z73) + (zi 1)), .int (zi z51), .ref c71]) (L2 := [some (.ref x), some (.int (zi a)), some (.int (zi b)), some (.int (zi zq1)), some (.int (zi (z9 + z13))), some (.int (zi i)), some (.int (zi z51))]) (S2 := [.int (zi (z73 + 1)), .int (zi z51), .ref c71]) rfl (by simp only [zi_add, zi_sub, zi_mul, zi_neg, zi_and1, zi_and7, zi_and15, zi_and31, zi_and255]) (by simp only [zi_add, zi_sub, zi_mul, zi_neg, zi_and1, zi_and7, zi_and15, zi_and31, zi_and255]) ?_
          have hl75 : 257 ≤ h60.2.2.2.1 c71 ∧ h60.2.2.2.1 c71 ≤ 257 := gJ.rowl (G := gGG) sh60.1 tc71 rfl
          refine gs_ast rfl (by decide) sh60 tc71 rfl rfl rfl (by decide) (fun _ => rfl) (by omega) (by omega) (fun _ => (by decide : (79999 : Nat) ∈ ([79999, 80999, 81999] : List Nat))) (by omega) (by omega) (fun h76 sh76 eh76 fh76 => ?_)
          have pr77 := gRn.pt fh76 tc71 (by decide) pr61
          have pr78 := gRn.pt fh76 tc71 (by decide) pr62
          have pr79 := gEl.pt fh76 tc71 (by decide) pr63
          have pr80 := gRn.pt fh76 tc71 (by decide) pr64
          have pr81 := gRn.put (i := z51) (z := z73 + 1) uq tc71 (by decide) fh76 eh76 (by omega) (by omega) pr65
          have pr82 := gEl.pt fh76 tc71 (by decide) pr70
          have s83 := (fh76 x 8 (fun q => absurd (((tx).symm.trans (congrArg ty q.1)).trans tc71) (by decide))).trans s66
          have s84 := (fh76 x 5 (fun q => absurd (((tx).symm.trans (congrArg ty q.1)).trans tc71) (by decide))).trans s67
          have s85 := (fh76 x 7 (fun q => absurd (((tx).symm.trans (congrArg ty q.1)).trans tc71) (by decide))).trans s68
          have s86 := (fh76 x 6 (fun q => absurd (((tx).symm.trans (congrArg ty q.1)).trans tc71) (by decide))).trans s69
          have s87 := (fh76 x 3 (fun q => absurd (((tx).symm.trans (congrArg ty q.1)).trans tc71) (by decide))).trans ec71
          have pr88 := gEl.set (i := z51) (z := z73 + 1) uq tc71 (by decide) eh76 (by omega) (by omega)
          have hrw89 : gRn 257 ty 81 (eJg a b g (eNx u n (i + 1))) h76 := gRn.cg (eJg_y (z := z51) lp44k4 lp44k5 (by omega) (by omega) hf52 (by omega) (by omega)) pr80
          have hrw90 : gRn 257 ty 79 (eJl a b g l (eNx u n (i + 1))) h76 := gRn.cg (eJl_y (z := z51) lp44k4 lp44k5 (by omega) (by omega) hf52 (by omega) (by omega)) pr81
          refine gy_s 2 (pc' := 46) (L' := [some (.ref x), some (.int (zi a)), some (.int (zi b)), some (.int (zi zq1)), some (.int (zi (z9 + z13))), some (.int ((zi i) + zi 1)), some (.int (zi z51))]) (S' := []) (L2 := [some (.ref x), some (.int (zi a)), some (.int (zi b)), some (.int (zi zq1)), some (.int (zi (z9 + z13))), some (.int (zi (i + 1))), some (.int (zi z51))]) (S2 := []) rfl (by simp only [zi_add, zi_sub, zi_mul, zi_neg, zi_and1, zi_and7, zi_and15, zi_and31, zi_and255]) (by simp only [zi_add, zi_sub, zi_mul, zi_neg, zi_and1, zi_and7, zi_and15, zi_and31, zi_and255]) ?_
          exact gz_wk (ihlp44 h76 (i + 1) (by omega) sh76 (by omega) (by omega) s83 s84 pr77 pr78 lp44k4 lp44k5 lp44k6 lp44k7 pr79 hrw89 hrw90) (gLw.s (gLw.s (gLw.s (gLw.s (gLw.s (gLw.s (gLw.n gLw.z)))))))
        · refine gy_icF rfl (by decide) (by decide) (by omega) (by omega) hc58 ?_
          refine gz_s 1 (pc' := 76) (L' := [some (.ref x), some (.int (zi a)), some (.int (zi b)), some (.int (zi zq1)), some (.int (zi (z9 + z13))), some (.int (zi i)), some (.int (zi z51))]) (S' := [.ref x]) rfl ?_
          refine gs_gtk rfl (by decide) rfl sh45.1 tx rfl rfl ec53 ?_
          refine gz_s 1 (pc' := 81) (L' := [some (.ref x), some (.int (zi a)), some (.int (zi b)), some (.int (zi zq1)), some (.int (zi (z9 + z13))), some (.int (zi i)), some (.int (zi z51))]) (S' := [.int (zi z51), .ref c53]) rfl ?_
          have hl91 : 257 ≤ h45.2.2.2.1 c53 ∧ h45.2.2.2.1 c53 ≤ 257 := gJ.rowl (G := gGG) sh45.1 tc53 rfl
          refine gs_ald rfl (by decide) sh45.1 tc53 rfl rfl rfl (by decide) (fun _ => rfl) (by omega) (by omega) (fun z92 ez92 az92 bz92 => ?_)
          have hf93 := gRn.at (i := z51) (z := z92) lp44k9 tc53 ez92 (by omega) (by omega) (by omega)
          have hg94 : g (z51).toNat = z92 := (eJg_at (by omega) (by omega)).symm.trans hf93
          refine gz_s 1 (pc' := 83) (L' := [some (.ref x), some (.int (zi a)), some (.int (zi b)), some (.int (zi zq1)), some (.int (zi (z9 + z13))), some (.int (zi i)), some (.int (zi z51))]) (S' := [.int (zi b), .int (zi z92)]) rfl ?_
          by_cases hc95 : ¬ (z92 : Int) = b
          · refine gy_icT (pc' := 105) rfl (by decide) (by decide) (by omega) (by omega) hc95 ?_
            have hrw96 : gRn 257 ty 81 (eJg a b g (eNx u n (i + 1))) h45 := gRn.cg (eJg_n (z := z51) lp44k4 lp44k5 (by omega) (by omega) hf52 (by omega)) lp44k9
            have hrw97 : gRn 257 ty 79 (eJl a b g l (eNx u n (i + 1))) h45 := gRn.cg (eJl_n (z := z51) lp44k4 lp44k5 (by omega) (by omega) hf52 (by omega)) lp44k10
            refine gy_s 2 (pc' := 46) (L' := [some (.ref x), some (.int (zi a)), some (.int (zi b)), some (.int (zi zq1)), some (.int (zi (z9 + z13))), some (.int ((zi i) + zi 1)), some (.int (zi z51))]) (S' := []) (L2 := [some (.ref x), some (.int (zi a)), some (.int (zi b)), some (.int (zi zq1)), some (.int (zi (z9 + z13))), some (.int (zi (i + 1))), some (.int (zi z51))]) (S2 := []) rfl (by simp only [zi_add, zi_sub, zi_mul, zi_neg, zi_and1, zi_and7, zi_and15, zi_and31, zi_and255]) (by simp only [zi_add, zi_sub, zi_mul, zi_neg, zi_and1, zi_and7, zi_and15, zi_and31, zi_and255]) ?_
            exact gz_wk (ihlp44 h45 (i + 1) (by omega) sh45 (by omega) (by omega) lp44k0 lp44k1 lp44k2 lp44k3 lp44k4 lp44k5 lp44k6 lp44k7 lp44k8 hrw96 hrw97) (gLw.s (gLw.s (gLw.s (gLw.s (gLw.s (gLw.s (gLw.n gLw.z)))))))
          · refine gy_icF rfl (by decide) (by decide) (by omega) (by omega) hc95 ?_
            refine gz_s 1 (pc' := 87) (L' := [some (.ref x), some (.int (zi a)), some (.int (zi b)), some (.int (zi zq1)), some (.int (zi (z9 + z13))), some (.int (zi i)), some (.int (zi z51))]) (S' := [.ref x]) rfl ?_
            refine gs_gtk rfl (by decide) rfl sh45.1 tx rfl rfl ec53 ?_
            refine gz_s 2 (pc' := 93) (L' := [some (.ref x), some (.int (zi a)), some (.int (zi b)), some (.int (zi zq1)), some (.int (zi (z9 + z13))), some (.int (zi i)), some (.int (zi z51))]) (S' := [.int (zi zq1), .int (zi z51), .ref c53]) rfl ?_
            have hl98 : 257 ≤ h45.2.2.2.1 c53 ∧ h45.2.2.2.1 c53 ≤ 257 := gJ.rowl (G := gGG) sh45.1 tc53 rfl
            refine gs_ast rfl (by decide) sh45 tc53 rfl rfl rfl (by decide) (fun _ => rfl) (by omega) (by omega) (fun _ => (by decide : (81999 : Nat) ∈ ([79999, 80999, 81999] : List Nat))) (by omega) (by omega) (fun h99 sh99 eh99 fh99 => ?_)
            have pr100 := gRn.pt fh99 tc53 (by decide) lp44k2
            have pr101 := gRn.pt fh99 tc53 (by decide) lp44k3
            have pr102 := gEl.pt fh99 tc53 (by decide) lp44k8
            have pr103 := gRn.put (i := z51) (z := zq1) uq tc53 (by decide) fh99 eh99 (by omega) (by omega) lp44k9
            have pr104 := gRn.pt fh99 tc53 (by decide) lp44k10
            have s105 := (fh99 x 8 (fun q => absurd (((tx).symm.trans (congrArg ty q.1)).trans tc53) (by decide))).trans lp44k0
            have s106 := (fh99 x 5 (fun q => absurd (((tx).symm.trans (congrArg ty q.1)).trans tc53) (by decide))).trans lp44k1
            have s107 := (fh99 x 7 (fun q => absurd (((tx).symm.trans (congrArg ty q.1)).trans tc53) (by decide))).trans ec49
            have s108 := (fh99 x 6 (fun q => absurd (((tx).symm.trans (congrArg ty q.1)).trans tc53) (by decide))).trans ec53
            have pr109 := gEl.set (i := z51) (z := zq1) uq tc53 (by decide) eh99 (by omega) (by omega)
            refine gz_s 1 (pc' := 95) (L' := [some (.ref x), some (.int (zi a)), some (.int (zi b)), some (.int (zi zq1)), some (.int (zi (z9 + z13))), some (.int (zi i)), some (.int (zi z51))]) (S' := [.ref x]) rfl ?_
            refine gs_gtr rfl (by decide) rfl sh99.1 tx rfl rfl rfl (fun c110 ec110 tc110 => ?_)
            refine gz_s 2 (pc' := 101) (L' := [some (.ref x), some (.int (zi a)), some (.int (zi b)), some (.int (zi zq1)), some (.int (zi (z9 + z13))), some (.int (zi i)), some (.int (zi z51))]) (S' := [.int (zi z51), .ref c110, .int (zi z51), .ref c110]) rfl ?_
            have hl111 : 257 ≤ h99.2.2.2.1 c110 ∧ h99.2.2.2.1 c110 ≤ 257 := gJ.rowl (G := gGG) sh99.1 tc110 rfl
            refine gs_ald rfl (by decide) sh99.1 tc110 rfl rfl rfl (by decide) (fun _ => rfl) (by omega) (by omega) (fun z112 ez112 az112 bz112 => ?_)
            have hf113 := gRn.at (i := z51) (z := z112) pr104 tc110 ez112 (by omega) (by omega) (by omega)
            have hl1 : l (z51).toNat = z112 := (eJl_at (by omega) (by omega)).symm.trans hf113
            have hlb := lp44k7 (z51).toNat (by omega)
            rw [hl1] at hlb
            refine gy_s 2 (pc' := 104) (L' := [some (.ref x), some (.int (zi a)), some (.int (zi b)), some (.int (zi zq1)), some (.int (zi (z9 + z13))), some (.int (zi i)), some (.int (zi z51))]) (S' := [.int ((zi z112) + (zi 1)), .int (zi z51), .ref c110]) (L2 := [some (.ref x), some (.int (zi a)), some (.int (zi b)), some (.int (zi zq1)), some (.int (zi (z9 + z13))), some (.int (zi i)), some (.int (zi z51))]) (S2 := [.int (zi (z112 + 1)), .int (zi z51), .ref c110]) rfl (by simp only [zi_add, zi_sub, zi_mul, zi_neg, zi_and1, zi_and7, zi_and15, zi_and31, zi_and255]) (by simp only [zi_add, zi_sub, zi_mul, zi_neg, zi_and1, zi_and7, zi_and15, zi_and31, zi_and255]) ?_
            have hl114 : 257 ≤ h99.2.2.2.1 c110 ∧ h99.2.2.2.1 c110 ≤ 257 := gJ.rowl (G := gGG) sh99.1 tc110 rfl
            refine gs_ast rfl (by decide) sh99 tc110 rfl rfl rfl (by decide) (fun _ => rfl) (by omega) (by omega) (fun _ => (by decide : (79999 : Nat) ∈ ([79999, 80999, 81999] : List Nat))) (by omega) (by omega) (fun h115 sh115 eh115 fh115 => ?_)
            have pr116 := gRn.pt fh115 tc110 (by decide) pr100
            have pr117 := gRn.pt fh115 tc110 (by decide) pr101
            have pr118 := gEl.pt fh115 tc110 (by decide) pr102
            have pr119 := gRn.pt fh115 tc110 (by decide) pr103
            have pr120 := gRn.put (i := z51) (z := z112 + 1) uq tc110 (by decide) fh115 eh115 (by omega) (by omega) pr104
            have pr121 := gEl.pt fh115 tc110 (by decide) pr109
            have s122 := (fh115 x 8 (fun q => absurd (((tx).symm.trans (congrArg ty q.1)).trans tc110) (by decide))).trans s105
            have s123 := (fh115 x 5 (fun q => absurd (((tx).symm.trans (congrArg ty q.1)).trans tc110) (by decide))).trans s106
            have s124 := (fh115 x 7 (fun q => absurd (((tx).symm.trans (congrArg ty q.1)).trans tc110) (by decide))).trans s107
            have s125 := (fh115 x 6 (fun q => absurd (((tx).symm.trans (congrArg ty q.1)).trans tc110) (by decide))).trans s108
            have s126 := (fh115 x 3 (fun q => absurd (((tx).symm.trans (congrArg ty q.1)).trans tc110) (by decide))).trans ec110
            have pr127 := gEl.set (i := z51) (z := z112 + 1) uq tc110 (by decide) eh115 (by omega) (by omega)
            have hrw128 : gRn 257 ty 81 (eJg a b g (eNx u n (i + 1))) h115 := gRn.cg (eJg_y (z := z51) lp44k4 lp44k5 (by omega) (by omega) hf52 (by omega) (by omega)) pr119
            have hrw129 : gRn 257 ty 79 (eJl a b g l (eNx u n (i + 1))) h115 := gRn.cg (eJl_y (z := z51) lp44k4 lp44k5 (by omega) (by omega) hf52 (by omega) (by omega)) pr120
            refine gy_s 2 (pc' := 46) (L' := [some (.ref x), some (.int (zi a)), some (.int (zi b)), some (.int (zi zq1)), some (.int (zi (z9 + z13))), some (.int ((zi i) + zi 1)), some (.int (zi z51))]) (S' := []) (L2 := [some (.ref x), some (.int (zi a)), some (.int (zi b)), some (.int (zi zq1)), some (.int (zi (z9 + z13))), some (.int (zi (i + 1))), some (.int (zi z51))]) (S2 := []) rfl (by simp only [zi_add, zi_sub, zi_mul, zi_neg, zi_and1, zi_and7, zi_and15, zi_and31, zi_and255]) (by simp only [zi_add, zi_sub, zi_mul, zi_neg, zi_and1, zi_and7, zi_and15, zi_and31, zi_and255]) ?_
            exact gz_wk (ihlp44 h115 (i + 1) (by omega) sh115 (by omega) (by omega) s122 s123 pr116 pr117 lp44k4 lp44k5 lp44k6 lp44k7 pr118 hrw128 hrw129) (gLw.s (gLw.s (gLw.s (gLw.s (gLw.s (gLw.s (gLw.n gLw.z)))))))
  exact gz_wk (lp44 _ h35 0 (Nat.lt_succ_self _) sh35 (by omega) (by omega) s40 s41 hrw43 pr39 hyus hyhu hywm hylm pr42 (gRn.cg (eJ_0 (l := l) hyus hyhu).1 pr37) (gRn.cg (eJ_0 (l := l) hyus hyhu).2 pr38)) (gLw.s (gLw.s (gLw.s (gLw.s (gLw.s (gLw.s (gLw.n gLw.z)))))))
set_option maxRecDepth 20000 in
set_option maxHeartbeats 4000000 in
theorem cw_Suited1_orderCodes (d : Nat) {ty : Nat → Nat} {h : gH} (hJ : gJ rT 1027 ty h) (x : Nat) (tx : ty x = 92) (n : Int) (en : h.2.2.2.2 x 8 = .int (zi n)) (rn : 0 ≤ n ∧ n ≤ 257) (L u w0 : Nat → Int) (uq : gUq ty) (hyf79 : gRn 257 ty 79 L h) (hyf85 : gRn 257 ty 85 u h) (hyus : eUs w0 u n) (hylz : ∀ j9 : Nat, j9 < 257 → ¬ 0 < w0 j9 → L j9 = 0) (hyl16 : ∀ j9 : Nat, j9 < 257 → 0 ≤ L j9 ∧ L j9 ≤ 16) : gz gPP gGG gcn (d + 0) gt125 0 (gent [.ref x] 5) [] h (fun q _ => gSs rT 1027 ty [76999, 77999, 78999, 92004] h q.2.2 ∧ ∃ t1 : Int, gfin gt125 q.1 q.2.1 = some none ∧ q.2.2.2.2.2.2 x 4 = .int (zi t1) ∧ 0 ≤ t1 ∧ t1 ≤ 256 ∧ (gOd ty 76 77 78 L t1 q.2.2)) := by
  have hS : gSs rT 1027 ty [76999, 77999, 78999, 92004] h h := gSs.rf hJ
  refine gz_s 2 (pc' := 2) (L' := [some (.ref x), none, none, none, none]) (S' := [.int (zi 0), .ref x]) rfl ?_
  refine gs_put rfl (by decide) rfl hS tx rfl rfl rfl rfl (Or.inl rfl) (by decide) (by omega) (by omega) (fun h1 sh1 eh1 fh1 => ?_)
  have pr2 := gRn.pt fh1 tx (by decide) hyf79
  have pr3 := gRn.pt fh1 tx (by decide) hyf85
  have s4 := (fh1 x 8 (fun q => absurd q.2 (by decide))).trans en
  refine gz_s 4 (pc' := 9) (L' := [some (.ref x), some (.int (zi 0)), some (.int (zi 1)), none, none]) (S' := []) rfl ?_
  obtain ⟨c6, ec6, tc6⟩ := gJ.ref (k := 0) (G := gGG) sh1.1 tx rfl rfl rfl
  obtain ⟨c7, ec7, tc7⟩ := gJ.ref (k := 1) (G := gGG) sh1.1 tx rfl rfl rfl
  obtain ⟨c8, ec8, tc8⟩ := gJ.ref (k := 2) (G := gGG) sh1.1 tx rfl rfl rfl
  have hoo9 : gOo ty 76 77 78 L 1 0 h1 := ⟨_, _, _, gRn.mk uq tc6 (by decide) (fun _ => rfl), gRn.mk uq tc7 (by decide) (fun _ => rfl), gRn.mk uq tc8 (by decide) (fun _ => rfl), fun l h1 h2 => absurd h2 (by omega), ekO.zero, fun s hs h0 h1 => absurd h1 (by omega)⟩
  have lp5 : ∀ (fu : Nat) (h10 : gH) (nx : Int) (ln : Int) (tv : Int), (18 - ln).toNat < fu → gSs rT 1027 ty [76999, 77999, 78999, 92004] h h10 → (0 ≤ nx ∧ nx ≤ 67109376) → (1 ≤ ln ∧ ln ≤ 17) → (0 ≤ tv ∧ tv ≤ 256) → (nx = ekF L ln.toNat) → h10.2.2.2.2 x 8 = .int (zi n) → h10.2.2.2.2 x 4 = .int (zi tv) → gRn 257 ty 79 L h10 → gRn 257 ty 85 u h10 → eUs w0 u n → (∀ j9 : Nat, j9 < 257 → ¬ 0 < w0 j9 → L j9 = 0) → (∀ j9 : Nat, j9 < 257 → 0 ≤ L j9 ∧ L j9 ≤ 16) → gOo ty 76 77 78 L ln tv h10 → gz gPP gGG gcn (d + 0) gt125 9 [some (.ref x), some (.int (zi nx)), some (.int (zi ln)), none, none] [] h10 (fun q _ => gSs rT 1027 ty [76999, 77999, 78999, 92004] h q.2.2 ∧ ∃ t1 : Int, gfin gt125 q.1 q.2.1 = some none ∧ q.2.2.2.2.2.2 x 4 = .int (zi t1) ∧ 0 ≤ t1 ∧ t1 ≤ 256 ∧ (gOd ty 76 77 78 L t1 q.2.2)) := by
    intro fu
    induction fu with
    | zero => intro h10 nx ln tv hm; exact absurd hm (Nat.not_lt_zero _)
    | succ fu ihlp5 =>
      intro h10 nx ln tv lp5m sh10 lp5f0 lp5f1 lp5f2 lp5f3 lp5k0 lp5k1 lp5k2 lp5k3 lp5k4 lp5k5 lp5k6 lp5k7
      refine gz_s 2 (pc' := 12) (L' := [some (.ref x), some (.int (zi nx)), some (.int (zi ln)), none, none]) (S' := [.int (zi 16), .int (zi ln)]) rfl ?_
      by_cases hc11 : (16 : Int) < ln
      · refine gy_icT (pc' := 117) rfl (by decide) (by decide) (by omega) (by omega) hc11 ?_
        have hod12 : gOd ty 76 77 78 L tv h10 := by
          have e9 := lp5k7
          rw [(by omega : ln = 17)] at e9
          exact e9.fin lp5k6
        exact gz_end (I := .return_) (len := 1) rfl (Or.inl rfl) ⟨sh10, tv, rfl, lp5k1, (by omega), (by omega), hod12⟩
      · refine gy_icF rfl (by decide) (by decide) (by omega) (by omega) hc11 ?_
        obtain ⟨fc9, fo9, fd9, x1, x2, x3, x4, x5, x6⟩ := lp5k7
        refine gz_s 1 (pc' := 16) (L' := [some (.ref x), some (.int (zi nx)), some (.int (zi ln)), none, none]) (S' := [.ref x]) rfl ?_
        refine gs_gtr rfl (by decide) rfl sh10.1 tx rfl rfl rfl (fun c13 ec13 tc13 => ?_)
        have ee14 : c6 = c13 := uq c6 c13 (tc6.trans tc13.symm) (by rw [tc6]; decide) (by rw [tc6]; decide)
        subst ee14
        refine gz_s 2 (pc' := 21) (L' := [some (.ref x), some (.int (zi nx)), some (.int (zi ln)), none, none]) (S' := [.int (zi 0), .int (zi ln), .ref c6]) rfl ?_
        have hl15 : 17 ≤ h10.2.2.2.1 c6 ∧ h10.2.2.2.1 c6 ≤ 17 := gJ.rowl (G := gGG) sh10.1 tc6 rfl
        refine gs_ast rfl (by decide) sh10 tc6 rfl rfl rfl (by decide) (fun _ => rfl) (by omega) (by omega) (fun _ => (by decide : (76999 : Nat) ∈ ([76999, 77999, 78999, 92004] : List Nat))) (by omega) (by omega) (fun h16 sh16 eh16 fh16 => ?_)
        have pr17 := gRn.pt fh16 tc6 (by decide) lp5k2
        have pr18 := gRn.pt fh16 tc6 (by decide) lp5k3
        have pr19 := gRn.put (i := ln) (z := 0) uq tc6 (by decide) fh16 eh16 (by omega) (by omega) x1
        have pr20 := gRn.pt fh16 tc6 (by decide) x2
        have pr21 := gRn.pt fh16 tc6 (by decide) x3
        have s22 := (fh16 x 8 (fun q => absurd (((tx).symm.trans (congrArg ty q.1)).trans tc6) (by decide))).trans lp5k0
        have s23 := (fh16 x 4 (fun q => absurd (((tx).symm.trans (congrArg ty q.1)).trans tc6) (by decide))).trans lp5k1
        have s24 := (fh16 x 0 (fun q => absurd (((tx).symm.trans (congrArg ty q.1)).trans tc6) (by decide))).trans ec13
        have pr25 := gEl.set (i := ln) (z := 0) uq tc6 (by decide) eh16 (by omega) (by omega)
        refine gz_s 2 (pc' := 24) (L' := [some (.ref x), some (.int (zi nx)), some (.int (zi ln)), some (.int (zi 0)), none]) (S' := []) rfl ?_
        have hoi27 : gOi ty 76 77 78 L ln (eNy u n 0) tv h16 := gOo.put (by omega) pr19 pr20 pr21 x4 x5 x6 lp5k4 lp5k5
        have lp26 : ∀ (fu : Nat) (h28 : gH) (nx2 : Int) (i : Int) (tv2 : Int), (258 - i).toNat < fu → gSs rT 1027 ty [76999, 77999, 78999, 92004] h h28 → (0 ≤ nx2 ∧ nx2 ≤ 67109376) → (0 ≤ i ∧ i ≤ 257) → (0 ≤ tv2 ∧ tv2 ≤ 256) → (nx2 = ekF L ln.toNat + ekN L ln (eNy u n i).toNat) → (i ≤ n) → h28.2.2.2.2 x 8 = .int (zi n) → h28.2.2.2.2 x 0 = .ref c6 → h28.2.2.2.2 x 4 = .int (zi tv2) → gRn 257 ty 79 L h28 → gRn 257 ty 85 u h28 → eUs w0 u n → (∀ j9 : Nat, j9 < 257 → ¬ 0 < w0 j9 → L j9 = 0) → (∀ j9 : Nat, j9 < 257 → 0 ≤ L j9 ∧ L j9 ≤ 16) → gOi ty 76 77 78 L ln (eNy u n i) tv2 h28 → gz gPP gGG gcn (d + 0) gt125 24 [some (.ref x), some (.int (zi nx2)), some (.int (zi ln)), some (.int (zi i)), none] [] h28 (fun q _ => gSs rT 1027 ty [76999, 77999, 78999, 92004] h q.2.2 ∧ ∃ t1 : Int, gfin gt125 q.1 q.2.1 = some none ∧ q.2.2.2.2.2.2 x 4 = .int (zi t1) ∧ 0 ≤ t1 ∧ t1 ≤ 256 ∧ (gOd ty 76 77 78 L t1 q.2.2)) := by
          intro fu
          induction fu with
          | zero => intro h28 nx2 i tv2 hm; exact absurd hm (Nat.not_lt_zero _)
          | succ fu ihlp26 =>
            intro h28 nx2 i tv2 lp26m sh28 lp26f0 lp26f1 lp26f2 lp26f3 lp26f4 lp26k0 lp26k1 lp26k2 lp26k3 lp26k4 lp26k5 lp26k6 lp26k7 lp26k8
            refine gz_s 2 (pc' := 26) (L' := [some (.ref x), some (.int (zi nx2)), some (.int (zi ln)), some (.int (zi i)), none]) (S' := [.ref x, .int (zi i)]) rfl ?_
            refine gs_gtk rfl (by decide) rfl sh28.1 tx rfl rfl lp26k0 ?_
            by_cases hc29 : (n : Int) ≤ i
            · refine gy_icT (pc' := 107) rfl (by decide) (by decide) (by omega) (by omega) hc29 ?_
              have hn9 : eNy u n i = 256 := eNy_n (by omega)
              have hoi9 := lp26k8
              rw [hn9] at hoi9
              obtain ⟨hoo30, hoo30n⟩ := gOi.next (nx := nx2) (by omega) (by rw [← hn9]; omega) hoi9
              have hkf := ekF_b L (l := ln.toNat) (by omega)
              have hkg := ekF_b L (l := (ln + 1).toNat) (by omega)
              refine gy_s 6 (pc' := 9) (L' := [some (.ref x), some (.int ((zi 2) * (zi nx2))), some (.int ((zi ln) + zi 1)), some (.int (zi i)), none]) (S' := []) (L2 := [some (.ref x), some (.int (zi (2 * nx2))), some (.int (zi (ln + 1))), some (.int (zi i)), none]) (S2 := []) rfl (by simp only [zi_add, zi_sub, zi_mul, zi_neg, zi_and1, zi_and7, zi_and15, zi_and31, zi_and255]) (by simp only [zi_add, zi_sub, zi_mul, zi_neg, zi_and1, zi_and7, zi_and15, zi_and31, zi_and255]) ?_
              exact gz_wk (ihlp5 h28 (2 * nx2) (ln + 1) tv2 (by omega) sh28 (by omega) (by omega) (by omega) (by omega) lp26k0 lp26k2 lp26k3 lp26k4 lp26k5 lp26k6 lp26k7 hoo30) (gLw.s (gLw.s (gLw.s (gLw.n (gLw.n gLw.z)))))
            · refine gy_icF rfl (by decide) (by decide) (by omega) (by omega) hc29 ?_
              refine gz_s 1 (pc' := 33) (L' := [some (.ref x), some (.int (zi nx2)), some (.int (zi ln)), some (.int (zi i)), none]) (S' := [.ref x]) rfl ?_
              refine gs_gtr rfl (by decide) rfl sh28.1 tx rfl rfl rfl (fun c31 ec31 tc31 => ?_)
              refine gz_s 1 (pc' := 37) (L' := [some (.ref x), some (.int (zi nx2)), some (.int (zi ln)), some (.int (zi i)), none]) (S' := [.int (zi i), .ref c31]) rfl ?_
              have hl32 : 257 ≤ h28.2.2.2.1 c31 ∧ h28.2.2.2.1 c31 ≤ 257 := gJ.rowl (G := gGG) sh28.1 tc31 rfl
              refine gs_ald rfl (by decide) sh28.1 tc31 rfl rfl rfl (by decide) (fun _ => rfl) (by omega) (by omega) (fun z33 ez33 az33 bz33 => ?_)
              have hf34 := gRn.at (i := i) (z := z33) lp26k4 tc31 ez33 (by omega) (by omega) (by omega)
              have hnw := eNx_w lp26k5 (by omega) (by omega) hf34
              refine gz_s 3 (pc' := 45) (L' := [some (.ref x), some (.int (zi nx2)), some (.int (zi ln)), some (.int (zi i)), some (.int (zi z33))]) (S' := [.int (zi 256), .int (zi z33)]) rfl ?_
              by_cases hc35 : (256 : Int) ≤ z33
              · refine gy_icT (pc' := 101) rfl (by decide) (by decide) (by omega) (by omega) hc35 ?_
                obtain ⟨hoi36, hoi36n⟩ := gOi.pass (z := z33) (nx := nx2) lp26k5 lp26k6 (by omega) (by omega) (by omega) hf34 (by omega) (by omega) lp26k8
                have hkc := ekN_b L ln (eNy u n (i + 1)).toNat
                have hkf := ekF_b L (l := ln.toNat) (by omega)
                refine gy_s 2 (pc' := 24) (L' := [some (.ref x), some (.int (zi nx2)), some (.int (zi ln)), some (.int ((zi i) + zi 1)), some (.int (zi z33))]) (S' := []) (L2 := [some (.ref x), some (.int (zi nx2)), some (.int (zi ln)), some (.int (zi (i + 1))), some (.int (zi z33))]) (S2 := []) rfl (by simp only [zi_add, zi_sub, zi_mul, zi_neg, zi_and1, zi_and7, zi_and15, zi_and31, zi_and255]) (by simp only [zi_add, zi_sub, zi_mul, zi_neg, zi_and1, zi_and7, zi_and15, zi_and31, zi_and255]) ?_
                exact gz_wk (ihlp26 h28 nx2 (i + 1) tv2 (by omega) sh28 (by omega) (by omega) (by omega) (by omega) (by omega) lp26k0 lp26k1 lp26k2 lp26k3 lp26k4 lp26k5 lp26k6 lp26k7 hoi36) (gLw.s (gLw.s (gLw.s (gLw.s (gLw.n gLw.z)))))
              · refine gy_icF rfl (by decide) (by decide) (by omega) (by omega) hc35 ?_
                refine gz_s 1 (pc' := 49) (L' := [some (.ref x), some (.int (zi nx2)), some (.int (zi ln)), some (.int (zi i)), some (.int (zi z33))]) (S' := [.ref x]) rfl ?_
                refine gs_gtr rfl (by decide) rfl sh28.1 tx rfl rfl rfl (fun c37 ec37 tc37 => ?_)
                refine gz_s 1 (pc' := 54) (L' := [some (.ref x), some (.int (zi nx2)), some (.int (zi ln)), some (.int (zi i)), some (.int (zi z33))]) (S' := [.int (zi z33), .ref c37]) rfl ?_
                have hl38 : 257 ≤ h28.2.2.2.1 c37 ∧ h28.2.2.2.1 c37 ≤ 257 := gJ.rowl (G := gGG) sh28.1 tc37 rfl
                refine gs_ald rfl (by decide) sh28.1 tc37 rfl rfl rfl (by decide) (fun _ => rfl) (by omega) (by omega) (fun z39 ez39 az39 bz39 => ?_)
                have hf40 := gRn.at (i := z33) (z := z39) lp26k3 tc37 ez39 (by omega) (by omega) (by omega)
                refine gz_s 1 (pc' := 56) (L' := [some (.ref x), some (.int (zi nx2)), some (.int (zi ln)), some (.int (zi i)), some (.int (zi z33))]) (S' := [.int (zi ln), .int (zi z39)]) rfl ?_
                by_cases hc41 : ¬ (z39 : Int) = ln
                · refine gy_icT (pc' := 101) rfl (by decide) (by decide) (by omega) (by omega) hc41 ?_
                  obtain ⟨hoi42, hoi42n⟩ := gOi.pass (z := z33) (nx := nx2) lp26k5 lp26k6 (by omega) (by omega) (by omega) hf34 (by have h9 := hf40; omega) (by omega) lp26k8
                  have hkc := ekN_b L ln (eNy u n (i + 1)).toNat
                  have hkf := ekF_b L (l := ln.toNat) (by omega)
                  refine gy_s 2 (pc' := 24) (L' := [some (.ref x), some (.int (zi nx2)), some (.int (zi ln)), some (.int ((zi i) + zi 1)), some (.int (zi z33))]) (S' := []) (L2 := [some (.ref x), some (.int (zi nx2)), some (.int (zi ln)), some (.int (zi (i + 1))), some (.int (zi z33))]) (S2 := []) rfl (by simp only [zi_add, zi_sub, zi_mul, zi_neg, zi_and1, zi_and7, zi_and15, zi_and31, zi_and255]) (by simp only [zi_add, zi_sub, zi_mul, zi_neg, zi_and1, zi_and7, zi_and15, zi_and31, zi_and255]) ?_
                  exact gz_wk (ihlp26 h28 nx2 (i + 1) tv2 (by omega) sh28 (by omega) (by omega) (by omega) (by omega) (by omega) lp26k0 lp26k1 lp26k2 lp26k3 lp26k4 lp26k5 lp26k6 lp26k7 hoi42) (gLw.s (gLw.s (gLw.s (gLw.s (gLw.n gLw.z)))))
                · refine gy_icF rfl (by decide) (by decide) (by omega) (by omega) hc41 ?_
                  obtain ⟨fc8, fo8, fd8, y1, y2, y3, y4, y5, y6, y7⟩ := lp26k8
                  have hkb := ekN_b L ln (eNy u n i).toNat
                  have hny := eNx_b (i := i) lp26k5 (by omega)
                  have hny2 : eNy u n i = if eNx u n i < 256 then eNx u n i else 256 := rfl
                  have hnx := eNx_at (u := u) (n := n) (i := i) (z := z33) (by omega) hf34
                  have htd := y6.1
                  have hny3 : (eNy u n i).toNat = (z33).toNat := by omega
                  rw [hny3] at htd
                  have htb := ekT_lt (L := L) (l := (ln - 1).toNat) (z := (z33).toNat) (by omega) (by have h9 := hf40; omega)
                  refine gz_s 1 (pc' := 60) (L' := [some (.ref x), some (.int (zi nx2)), some (.int (zi ln)), some (.int (zi i)), some (.int (zi z33))]) (S' := [.ref x]) rfl ?_
                  refine gs_gtk rfl (by decide) rfl sh28.1 tx rfl rfl lp26k1 ?_
                  refine gz_s 2 (pc' := 65) (L' := [some (.ref x), some (.int (zi nx2)), some (.int (zi ln)), some (.int (zi i)), some (.int (zi z33))]) (S' := [.int (zi ln), .ref c6, .int (zi ln), .ref c6]) rfl ?_
                  have hl43 : 17 ≤ h28.2.2.2.1 c6 ∧ h28.2.2.2.1 c6 ≤ 17 := gJ.rowl (G := gGG) sh28.1 tc6 rfl
                  refine gs_ald rfl (by decide) sh28.1 tc6 rfl rfl rfl (by decide) (fun _ => rfl) (by omega) (by omega) (fun z44 ez44 az44 bz44 => ?_)
                  have hf45 := gRn.at (i := ln) (z := z44) y1 tc6 ez44 (by omega) (by omega) (by omega)
                  refine gy_s 2 (pc' := 68) (L' := [some (.ref x), some (.int (zi nx2)), some (.int (zi ln)), some (.int (zi i)), some (.int (zi z33))]) (S' := [.int ((zi z44) + (zi 1)), .int (zi ln), .ref c6]) (L2 := [some (.ref x), some (.int (zi nx2)), some (.int (zi ln)), some (.int (zi i)), some (.int (zi z33))]) (S2 := [.int (zi (z44 + 1)), .int (zi ln), .ref c6]) rfl (by simp only [zi_add, zi_sub, zi_mul, zi_neg, zi_and1, zi_and7, zi_and15, zi_and31, zi_and255]) (by simp only [zi_add, zi_sub, zi_mul, zi_neg, zi_and1, zi_and7, zi_and15, zi_and31, zi_and255]) ?_
                  have hl46 : 17 ≤ h28.2.2.2.1 c6 ∧ h28.2.2.2.1 c6 ≤ 17 := gJ.rowl (G := gGG) sh28.1 tc6 rfl
                  refine gs_ast rfl (by decide) sh28 tc6 rfl rfl rfl (by decide) (fun _ => rfl) (by omega) (by omega) (fun _ => (by decide : (76999 : Nat) ∈ ([76999, 77999, 78999, 92004] : List Nat))) (by omega) (by omega) (fun h47 sh47 eh47 fh47 => ?_)
                  have pr48 := gRn.pt fh47 tc6 (by decide) lp26k3
                  have pr49 := gRn.pt fh47 tc6 (by decide) lp26k4
                  have pr50 := gRn.put (i := ln) (z := z44 + 1) uq tc6 (by decide) fh47 eh47 (by omega) (by omega) y1
                  have pr51 := gRn.pt fh47 tc6 (by decide) y2
                  have pr52 := gRn.pt fh47 tc6 (by decide) y3
                  have s53 := (fh47 x 8 (fun q => absurd (((tx).symm.trans (congrArg ty q.1)).trans tc6) (by decide))).trans lp26k0
                  have s54 := (fh47 x 0 (fun q => absurd (((tx).symm.trans (congrArg ty q.1)).trans tc6) (by decide))).trans lp26k1
                  have s55 := (fh47 x 4 (fun q => absurd (((tx).symm.trans (congrArg ty q.1)).trans tc6) (by decide))).trans lp26k2
                  have s56 := (fh47 x 7 (fun q => absurd (((tx).symm.trans (congrArg ty q.1)).trans tc6) (by decide))).trans ec31
                  have s57 := (fh47 x 3 (fun q => absurd (((tx).symm.trans (congrArg ty q.1)).trans tc6) (by decide))).trans ec37
                  have pr58 := gEl.set (i := ln) (z := z44 + 1) uq tc6 (by decide) eh47 (by omega) (by omega)
                  refine gz_s 1 (pc' := 70) (L' := [some (.ref x), some (.int (zi nx2)), some (.int (zi ln)), some (.int (zi i)), some (.int (zi z33))]) (S' := [.ref x]) rfl ?_
                  refine gs_gtr rfl (by decide) rfl sh47.1 tx rfl rfl rfl (fun c59 ec59 tc59 => ?_)
                  have ee60 : c7 = c59 := uq c7 c59 (tc7.trans tc59.symm) (by rw [tc7]; decide) (by rw [tc7]; decide)
                  subst ee60
                  refine gz_s 1 (pc' := 74) (L' := [some (.ref x), some (.int (zi nx2)), some (.int (zi ln)), some (.int (zi i)), some (.int (zi z33))]) (S' := [.ref x, .ref c7]) rfl ?_
                  refine gs_gtk rfl (by decide) rfl sh47.1 tx rfl rfl s55 ?_
                  refine gz_s 1 (pc' := 79) (L' := [some (.ref x), some (.int (zi nx2)), some (.int (zi ln)), some (.int (zi i)), some (.int (zi z33))]) (S' := [.int (zi z33), .int (zi tv2), .ref c7]) rfl ?_
                  have hl61 : 256 ≤ h47.2.2.2.1 c7 ∧ h47.2.2.2.1 c7 ≤ 256 := gJ.rowl (G := gGG) sh47.1 tc7 rfl
                  refine gs_ast rfl (by decide) sh47 tc7 rfl rfl rfl (by decide) (fun _ => rfl) (by omega) (by omega) (fun _ => (by decide : (77999 : Nat) ∈ ([76999, 77999, 78999, 92004] : List Nat))) (by omega) (by omega) (fun h62 sh62 eh62 fh62 => ?_)
                  have pr63 := gRn.pt fh62 tc7 (by decide) pr48
                  have pr64 := gRn.pt fh62 tc7 (by decide) pr49
                  have pr65 := gRn.pt fh62 tc7 (by decide) pr50
                  have pr66 := gRn.put (i := tv2) (z := z33) uq tc7 (by decide) fh62 eh62 (by omega) (by omega) pr51
                  have pr67 := gRn.pt fh62 tc7 (by decide) pr52
                  have pr68 := gEl.pt fh62 tc7 (by decide) pr58
                  have s69 := (fh62 x 8 (fun q => absurd (((tx).symm.trans (congrArg ty q.1)).trans tc7) (by decide))).trans s53
                  have s70 := (fh62 x 0 (fun q => absurd (((tx).symm.trans (congrArg ty q.1)).trans tc7) (by decide))).trans s54
                  have s71 := (fh62 x 4 (fun q => absurd (((tx).symm.trans (congrArg ty q.1)).trans tc7) (by decide))).trans s55
                  have s72 := (fh62 x 7 (fun q => absurd (((tx).symm.trans (congrArg ty q.1)).trans tc7) (by decide))).trans s56
                  have s73 := (fh62 x 3 (fun q => absurd (((tx).symm.trans (congrArg ty q.1)).trans tc7) (by decide))).trans s57
                  have s74 := (fh62 x 1 (fun q => absurd (((tx).symm.trans (congrArg ty q.1)).trans tc7) (by decide))).trans ec59
                  have pr75 := gEl.set (i := tv2) (z := z33) uq tc7 (by decide) eh62 (by omega) (by omega)
                  refine gz_s 2 (pc' := 82) (L' := [some (.ref x), some (.int (zi nx2)), some (.int (zi ln)), some (.int (zi i)), some (.int (zi z33))]) (S' := [.ref x, .ref x]) rfl ?_
                  refine gs_gtk rfl (by decide) rfl sh62.1 tx rfl rfl s71 ?_
                  refine gy_s 2 (pc' := 87) (L' := [some (.ref x), some (.int (zi nx2)), some (.int (zi ln)), some (.int (zi i)), some (.int (zi z33))]) (S' := [.int ((zi tv2) + (zi 1)), .ref x]) (L2 := [some (.ref x), some (.int (zi nx2)), some (.int (zi ln)), some (.int (zi i)), some (.int (zi z33))]) (S2 := [.int (zi (tv2 + 1)), .ref x]) rfl (by simp only [zi_add, zi_sub, zi_mul, zi_neg, zi_and1, zi_and7, zi_and15, zi_and31, zi_and255]) (by simp only [zi_add, zi_sub, zi_mul, zi_neg, zi_and1, zi_and7, zi_and15, zi_and31, zi_and255]) ?_
                  refine gs_put rfl (by decide) rfl sh62 tx rfl rfl rfl rfl (Or.inl rfl) (by decide) (by omega) (by omega) (fun h76 sh76 eh76 fh76 => ?_)
                  have pr77 := gRn.pt fh76 tx (by decide) pr63
                  have pr78 := gRn.pt fh76 tx (by decide) pr64
                  have pr79 := gRn.pt fh76 tx (by decide) pr65
                  have pr80 := gRn.pt fh76 tx (by decide) pr66
                  have pr81 := gRn.pt fh76 tx (by decide) pr67
                  have pr82 := gEl.pt fh76 tx (by decide) pr68
                  have pr83 := gEl.pt fh76 tx (by decide) pr75
                  have s84 := (fh76 x 8 (fun q => absurd q.2 (by decide))).trans s69
                  have s85 := (fh76 x 0 (fun q => absurd q.2 (by decide))).trans s70
                  have s86 := (fh76 x 7 (fun q => absurd q.2 (by decide))).trans s72
                  have s87 := (fh76 x 3 (fun q => absurd q.2 (by decide))).trans s73
                  have s88 := (fh76 x 1 (fun q => absurd q.2 (by decide))).trans s74
                  refine gz_s 1 (pc' := 91) (L' := [some (.ref x), some (.int (zi nx2)), some (.int (zi ln)), some (.int (zi i)), some (.int (zi z33))]) (S' := [.ref x]) rfl ?_
                  refine gs_gtr rfl (by decide) rfl sh76.1 tx rfl rfl rfl (fun c89 ec89 tc89 => ?_)
                  have ee90 : c8 = c89 := uq c8 c89 (tc8.trans tc89.symm) (by rw [tc8]; decide) (by rw [tc8]; decide)
                  subst ee90
                  refine gz_s 2 (pc' := 97) (L' := [some (.ref x), some (.int (zi nx2)), some (.int (zi ln)), some (.int (zi i)), some (.int (zi z33))]) (S' := [.int (zi nx2), .int (zi z33), .ref c8]) rfl ?_
                  have hl91 : 257 ≤ h76.2.2.2.1 c8 ∧ h76.2.2.2.1 c8 ≤ 257 := gJ.rowl (G := gGG) sh76.1 tc8 rfl
                  refine gs_ast rfl (by decide) sh76 tc8 rfl rfl rfl (by decide) (fun _ => rfl) (by omega) (by omega) (fun _ => (by decide : (78999 : Nat) ∈ ([76999, 77999, 78999, 92004] : List Nat))) (by omega) (by omega) (fun h92 sh92 eh92 fh92 => ?_)
                  have pr93 := gRn.pt fh92 tc8 (by decide) pr77
                  have pr94 := gRn.pt fh92 tc8 (by decide) pr78
                  have pr95 := gRn.pt fh92 tc8 (by decide) pr79
                  have pr96 := gRn.pt fh92 tc8 (by decide) pr80
                  have pr97 := gRn.put (i := z33) (z := nx2) uq tc8 (by decide) fh92 eh92 (by omega) (by omega) pr81
                  have pr98 := gEl.pt fh92 tc8 (by decide) pr82
                  have pr99 := gEl.pt fh92 tc8 (by decide) pr83
                  have s100 := (fh92 x 8 (fun q => absurd (((tx).symm.trans (congrArg ty q.1)).trans tc8) (by decide))).trans s84
                  have s101 := (fh92 x 0 (fun q => absurd (((tx).symm.trans (congrArg ty q.1)).trans tc8) (by decide))).trans s85
                  have s102 := (fh92 x 7 (fun q => absurd (((tx).symm.trans (congrArg ty q.1)).trans tc8) (by decide))).trans s86
                  have s103 := (fh92 x 3 (fun q => absurd (((tx).symm.trans (congrArg ty q.1)).trans tc8) (by decide))).trans s87
                  have s104 := (fh92 x 1 (fun q => absurd (((tx).symm.trans (congrArg ty q.1)).trans tc8) (by decide))).trans s88
                  have s105 := (fh92 x 4 (fun q => absurd (((tx).symm.trans (congrArg ty q.1)).trans tc8) (by decide))).trans eh76
                  have s106 := (fh92 x 2 (fun q => absurd (((tx).symm.trans (congrArg ty q.1)).trans tc8) (by decide))).trans ec89
                  have pr107 := gEl.set (i := z33) (z := nx2) uq tc8 (by decide) eh92 (by omega) (by omega)
                  refine gy_s 1 (pc' := 101) (L' := [some (.ref x), some (.int ((zi nx2) + zi 1)), some (.int (zi ln)), some (.int (zi i)), some (.int (zi z33))]) (S' := []) (L2 := [some (.ref x), some (.int (zi (nx2 + 1))), some (.int (zi ln)), some (.int (zi i)), some (.int (zi z33))]) (S2 := []) rfl (by simp only [zi_add, zi_sub, zi_mul, zi_neg, zi_and1, zi_and7, zi_and15, zi_and31, zi_and255]) (by simp only [zi_add, zi_sub, zi_mul, zi_neg, zi_and1, zi_and7, zi_and15, zi_and31, zi_and255]) ?_
                  obtain ⟨hoi108, hoi108n⟩ := gOi.take (z := z33) (nx := nx2) lp26k5 lp26k6 (by omega) (by omega) (by omega) hf34 (by omega) (by have h9 := hf40; omega) (by omega) hf45 pr95 pr96 pr97 y4 y5 y6 y7
                  have hkc := ekN_b L ln (eNy u n (i + 1)).toNat
                  have hkf := ekF_b L (l := ln.toNat) (by omega)
                  refine gy_s 2 (pc' := 24) (L' := [some (.ref x), some (.int (zi (nx2 + 1))), some (.int (zi ln)), some (.int ((zi i) + zi 1)), some (.int (zi z33))]) (S' := []) (L2 := [some (.ref x), some (.int (zi (nx2 + 1))), some (.int (zi ln)), some (.int (zi (i + 1))), some (.int (zi z33))]) (S2 := []) rfl (by simp only [zi_add, zi_sub, zi_mul, zi_neg, zi_and1, zi_and7, zi_and15, zi_and31, zi_and255]) (by simp only [zi_add, zi_sub, zi_mul, zi_neg, zi_and1, zi_and7, zi_and15, zi_and31, zi_and255]) ?_
                  exact gz_wk (ihlp26 h92 (nx2 + 1) (i + 1) (tv2 + 1) (by omega) sh92 (by omega) (by omega) (by omega) (by omega) (by omega) s100 s101 s105 pr93 pr94 lp26k5 lp26k6 lp26k7 hoi108) (gLw.s (gLw.s (gLw.s (gLw.s (gLw.n gLw.z)))))
        have hk9 : ekN L ln (eNy u n 0).toNat = 0 := ekN_up (a := 0) (by omega) (eNy_0 (L := L) lp5k4 lp5k5 (by omega)).2
        exact gz_wk (lp26 _ h16 nx 0 tv (Nat.lt_succ_self _) sh16 (by omega) (by omega) (by omega) (by omega) (by omega) s22 s24 s23 pr17 pr18 lp5k4 lp5k5 lp5k6 hoi27) (gLw.s (gLw.s (gLw.s (gLw.s (gLw.n gLw.z)))))
  have hkf1 : ekF L (1 : Int).toNat = 0 := rfl
  exact gz_wk (lp5 _ h1 0 1 0 (Nat.lt_succ_self _) sh1 (by omega) (by omega) (by omega) (by omega) s4 eh1 pr2 pr3 hyus hylz hyl16 hoo9) (gLw.s (gLw.s (gLw.s (gLw.n (gLw.n gLw.z)))))
set_option maxRecDepth 20000 in
set_option maxHeartbeats 4000000 in
theorem cw_Suited1_suit (d : Nat) {ty : Nat → Nat} {h : gH} (hJ : gJ rT 1027 ty h) (x : Nat) (tx : ty x = 92) (w0 : Nat → Int) (uq : gUq ty) (hyf80 : gRn 257 ty 80 w0 h) (hywb : ewB w0 1999) (hyw6 : 0 < w0 256) : gz gPP gGG gcn (d + 2) gt122 0 (gent [.ref x] 3) [] h (fun q _ => gSs rT 1027 ty [76999, 77999, 78999, 79999, 80999, 81999, 85999, 92004, 92008] h q.2.2 ∧ ∃ t1 : Int, gfin gt122 q.1 q.2.1 = some none ∧ q.2.2.2.2.2.2 x 4 = .int (zi t1) ∧ 0 ≤ t1 ∧ t1 ≤ 256 ∧ (gRn 257 ty 79 (ehN w0) q.2.2) ∧ (gOd ty 76 77 78 (ehN w0) t1 q.2.2)) := by
  have hS : gSs rT 1027 ty [76999, 77999, 78999, 79999, 80999, 81999, 85999, 92004, 92008] h h := gSs.rf hJ
  have hw5 : ∀ x : Nat, x < 257 → 0 ≤ w0 x := fun x _ => hywb.1 x
  have hw4 := hywb.2
  have hw6 := hyw6
  refine gz_s 2 (pc' := 2) (L' := [some (.ref x), none, none]) (S' := [.int (zi 0), .ref x]) rfl ?_
  refine gs_put rfl (by decide) rfl hS tx rfl rfl rfl rfl (Or.inl rfl) (by decide) (by omega) (by omega) (fun h1 sh1 eh1 fh1 => ?_)
  have pr2 := gRn.pt fh1 tx (by decide) hyf80
  refine gz_s 2 (pc' := 7) (L' := [some (.ref x), some (.int (zi 0)), none]) (S' := []) rfl ?_
  obtain ⟨c4, ec4, tc4⟩ := gJ.ref (k := 7) (G := gGG) sh1.1 tx rfl rfl rfl
  have huf5 : gUf ty 85 w0 0 0 h1 := ⟨_, gRn.mk uq tc4 (by decide) (fun _ => rfl), eUf.zero⟩
  have lp3 : ∀ (fu : Nat) (h6 : gH) (sy : Int) (un : Int), (258 - sy).toNat < fu → gSs rT 1027 ty [76999, 77999, 78999, 79999, 80999, 81999, 85999, 92004, 92008] h h6 → (0 ≤ sy ∧ sy ≤ 257) → (0 ≤ un ∧ un ≤ 257) → (un ≤ sy) → h6.2.2.2.2 x 8 = .int (zi un) → gRn 257 ty 80 w0 h6 → ewB w0 1999 → 0 < w0 256 → gRn (sy).toNat ty 79 (fun _ => 0) h6 → gRn (sy).toNat ty 81 (fun j9 => (j9 : Int)) h6 → gUf ty 85 w0 un sy h6 → gz gPP gGG gcn (d + 2) gt122 7 [some (.ref x), some (.int (zi sy)), none] [] h6 (fun q _ => gSs rT 1027 ty [76999, 77999, 78999, 79999, 80999, 81999, 85999, 92004, 92008] h q.2.2 ∧ ∃ t1 : Int, gfin gt122 q.1 q.2.1 = some none ∧ q.2.2.2.2.2.2 x 4 = .int (zi t1) ∧ 0 ≤ t1 ∧ t1 ≤ 256 ∧ (gRn 257 ty 79 (ehN w0) q.2.2) ∧ (gOd ty 76 77 78 (ehN w0) t1 q.2.2)) := by
    intro fu
    induction fu with
    | zero => intro h6 sy un hm; exact absurd hm (Nat.not_lt_zero _)
    | succ fu ihlp3 =>
      intro h6 sy un lp3m sh6 lp3f0 lp3f1 lp3f2 lp3k0 lp3k1 lp3k2 lp3k3 lp3k4 lp3k5 lp3k6
      refine gz_s 2 (pc' := 11) (L' := [some (.ref x), some (.int (zi sy)), none]) (S' := [.int (zi 256), .int (zi sy)]) rfl ?_
      by_cases hc7 : (256 : Int) < sy
      · refine gy_icT (pc' := 63) rfl (by decide) (by decide) (by omega) (by omega) hc7 ?_
        have es9 : sy = 257 := by omega
        subst es9
        obtain ⟨u9, ru9, iu9⟩ := lp3k6
        have us9 := iu9.fin
        have hun : un = eac w0 := us9.2.2.2
        have he1 : 1 ≤ eac w0 := eac_1 hw6
        refine gz_s 2 (pc' := 65) (L' := [some (.ref x), some (.int (zi 1)), none]) (S' := []) rfl ?_
        have lp8 : ∀ (fu : Nat) (h9 : gH) (jn : Int), (259 - jn).toNat < fu → gSs rT 1027 ty [76999, 77999, 78999, 79999, 80999, 81999, 85999, 92004, 92008] h h9 → (1 ≤ jn ∧ jn ≤ 258) → (jn ≤ un) → h9.2.2.2.2 x 8 = .int (zi un) → ewB w0 1999 → 0 < w0 256 → gRn 257 ty 85 u9 h9 → eUs w0 u9 un → gRn 257 ty 80 ((ehR w0 (jn - 1).toNat).1) h9 → gRn 257 ty 81 ((ehR w0 (jn - 1).toNat).2.1) h9 → gRn 257 ty 79 ((ehR w0 (jn - 1).toNat).2.2) h9 → gz gPP gGG gcn (d + 2) gt122 65 [some (.ref x), some (.int (zi jn)), none] [] h9 (fun q _ => gSs rT 1027 ty [76999, 77999, 78999, 79999, 80999, 81999, 85999, 92004, 92008] h q.2.2 ∧ ∃ t1 : Int, gfin gt122 q.1 q.2.1 = some none ∧ q.2.2.2.2.2.2 x 4 = .int (zi t1) ∧ 0 ≤ t1 ∧ t1 ≤ 256 ∧ (gRn 257 ty 79 (ehN w0) q.2.2) ∧ (gOd ty 76 77 78 (ehN w0) t1 q.2.2)) := by
          intro fu
          induction fu with
          | zero => intro h9 jn hm; exact absurd hm (Nat.not_lt_zero _)
          | succ fu ihlp8 =>
            intro h9 jn lp8m sh9 lp8f0 lp8f1 lp8k0 lp8k1 lp8k2 lp8k3 lp8k4 lp8k5 lp8k6 lp8k7
            refine gz_s 2 (pc' := 67) (L' := [some (.ref x), some (.int (zi jn)), none]) (S' := [.ref x, .int (zi jn)]) rfl ?_
            refine gs_gtk rfl (by decide) rfl sh9.1 tx rfl rfl lp8k0 ?_
            by_cases hc10 : (un : Int) ≤ jn
            · refine gy_icT (pc' := 95) rfl (by decide) (by decide) (by omega) (by omega) hc10 ?_
              have hE : ehE w0 = (ehR w0 (jn - 1).toNat) := ehE_at he1 (by omega)
              have hrw11 : gRn 257 ty 79 (ehN w0) h9 := by show gRn 257 ty 79 (ehE w0).2.2 h9; rw [hE]; exact lp8k7
              have lz9 : ∀ j9 : Nat, j9 < 257 → ¬ 0 < w0 j9 → ehN w0 j9 = 0 := fun j9 hj9 hn9 => ((ehI.all hw5 257).2.2.1 j9 hj9 hn9).2.2
              have l169 : ∀ j9 : Nat, j9 < 257 → 0 ≤ ehN w0 j9 ∧ ehN w0 j9 ≤ 16 := fun j9 hj9 => eh16 hw5 (by omega) 257 j9 hj9
              refine gz_s 1 (pc' := 96) (L' := [some (.ref x), some (.int (zi jn)), none]) (S' := [.ref x]) rfl ?_
              refine gz_call rfl (by decide) rfl (by decide) (by decide) (gcal_of rfl rfl rfl (Nat.le_of_ble_eq_true rfl) (gJ.recv (G := gGG) sh9.1 tx rfl rfl)) (cw_Suited1_orderCodes _ sh9.1 x tx un lp8k0 ⟨by omega, by omega⟩ (ehN w0) u9 w0 uq hrw11 lp8k3 lp8k4 lz9 l169) (fun q12 _ wq12 => ?_)
              obtain ⟨pq12, oq12, hq12⟩ := q12
              obtain ⟨xq12, fq12_0, gq12, efq12_0, afq12_0, bfq12_0, yq12_0⟩ := wq12
              refine ⟨_, gq12, ?_⟩
              show gz gPP gGG gcn _ _ 99 [some (.ref x), some (.int (zi jn)), none] [] hq12 _
              have sq12 : gSs rT 1027 ty [76999, 77999, 78999, 79999, 80999, 81999, 85999, 92004, 92008] h hq12 := gSs.tr sh9 xq12 (by decide)
              have s13 := (xq12.2.2.2.2.2 x 8 (by rw [tx]; decide)).trans lp8k0
              have pr14 := gRn.fr xq12.2 (by decide) lp8k3
              have pr15 := gRn.fr xq12.2 (by decide) lp8k5
              have pr16 := gRn.fr xq12.2 (by decide) lp8k6
              have pr17 := gRn.fr xq12.2 (by decide) hrw11
              exact gz_end (I := .return_) (len := 1) rfl (Or.inl rfl) ⟨sq12, fq12_0, rfl, efq12_0, (by omega), (by omega), pr17, yq12_0⟩
            · refine gy_icF rfl (by decide) (by decide) (by omega) (by omega) hc10 ?_
              have hmo := ehR_more he1 (n := (jn - 1).toNat) (by omega)
              obtain ⟨b0, a0, oo9, ee9⟩ := (ehS_of (ehR w0 (jn - 1).toNat)).resolve_left (fun q => by have := q.1; omega)
              have ii9 := ehI.all hw5 (jn - 1).toNat
              have ea9 : ehA (ehR w0 (jn - 1).toNat) = ehL (ehR w0 (jn - 1).toNat).1 (-1) 257 := rfl
              have ha9 : ∀ j9 : Nat, j9 < 257 → 0 < (ehR w0 (jn - 1).toNat).1 j9 → 0 < w0 j9 := ehI.act ii9
              refine gz_s 2 (pc' := 75) (L' := [some (.ref x), some (.int (zi jn)), none]) (S' := [.int (zi (-1)), .ref x]) rfl ?_
              refine gz_call rfl (by decide) rfl (by decide) (by decide) (gcal_of rfl rfl rfl (Nat.le_of_ble_eq_true rfl) (gJ.recv (G := gGG) sh9.1 tx rfl rfl)) (cw_Suited1_leastGroup _ sh9.1 x tx (-1) ⟨by omega, by omega⟩ un lp8k0 ⟨by omega, by omega⟩ ((ehR w0 (jn - 1).toNat).1) u9 w0 uq lp8k5 lp8k3 lp8k4 ha9) (fun q18 _ wq18 => ?_)
              obtain ⟨pq18, oq18, hq18⟩ := q18
              obtain ⟨xq18, zq18, gq18, aq18, bq18, uq18_0, uq18_1⟩ := wq18
              refine ⟨_, gq18, ?_⟩
              show gz gPP gGG gcn _ _ 78 [some (.ref x), some (.int (zi jn)), none] [.int (zi zq18)] hq18 _
              have sq18 : gSs rT 1027 ty [76999, 77999, 78999, 79999, 80999, 81999, 85999, 92004, 92008] h hq18 := gSs.tr sh9 xq18 (by decide)
              have s19 := (xq18.2.2.2.2.2 x 8 (by rw [tx]; decide)).trans lp8k0
              have pr20 := gRn.fr xq18.2 (by decide) lp8k3
              have pr21 := gRn.fr xq18.2 (by decide) lp8k5
              have pr22 := gRn.fr xq18.2 (by decide) lp8k6
              have pr23 := gRn.fr xq18.2 (by decide) lp8k7
              have hza : zq18 = ehA (ehR w0 (jn - 1).toNat) := by omega
              refine gz_s 5 (pc' := 83) (L' := [some (.ref x), some (.int (zi jn)), some (.int (zi zq18))]) (S' := [.int (zi zq18), .ref x, .int (zi zq18), .ref x]) rfl ?_
              refine gz_call rfl (by decide) rfl (by decide) (by decide) (gcal_of rfl rfl rfl (Nat.le_of_ble_eq_true rfl) (gJ.recv (G := gGG) sq18.1 tx rfl rfl)) (cw_Suited1_leastGroup _ sq18.1 x tx zq18 ⟨by omega, by omega⟩ un s19 ⟨by omega, by omega⟩ ((ehR w0 (jn - 1).toNat).1) u9 w0 uq pr21 pr20 lp8k4 ha9) (fun q24 _ wq24 => ?_)
              obtain ⟨pq24, oq24, hq24⟩ := q24
              obtain ⟨xq24, zq24, gq24, aq24, bq24, uq24_0, uq24_1⟩ := wq24
              refine ⟨_, gq24, ?_⟩
              show gz gPP gGG gcn _ _ 86 [some (.ref x), some (.int (zi jn)), some (.int (zi zq18))] [.int (zi zq24), .int (zi zq18), .ref x] hq24 _
              have sq24 : gSs rT 1027 ty [76999, 77999, 78999, 79999, 80999, 81999, 85999, 92004, 92008] h hq24 := gSs.tr sq18 xq24 (by decide)
              have s25 := (xq24.2.2.2.2.2 x 8 (by rw [tx]; decide)).trans s19
              have pr26 := gRn.fr xq24.2 (by decide) pr20
              have pr27 := gRn.fr xq24.2 (by decide) pr21
              have pr28 := gRn.fr xq24.2 (by decide) pr22
              have pr29 := gRn.fr xq24.2 (by decide) pr23
              have eb9 : ehL (ehR w0 (jn - 1).toNat).1 zq18 257 = ehB (ehR w0 (jn - 1).toNat) := by rw [hza]; rfl
              have hzb : zq24 = ehB (ehR w0 (jn - 1).toNat) := by omega
              have hu9 : ∀ j9 : Nat, j9 < 257 → ¬ 0 < w0 j9 → ¬ ((ehR w0 (jn - 1).toNat).2.1 j9 = zq18 ∨ (ehR w0 (jn - 1).toNat).2.1 j9 = zq24) := ehI.un ii9 oo9 hza hzb (by omega) (by omega)
              have wm9 : ∀ j9 : Nat, j9 < 257 → 0 ≤ (ehR w0 (jn - 1).toNat).1 j9 ∧ (ehR w0 (jn - 1).toNat).1 j9 ≤ 1000000 := ehI.wm ii9 (by omega)
              have lm9 : ∀ j9 : Nat, j9 < 257 → 0 ≤ (ehR w0 (jn - 1).toNat).2.2 j9 ∧ (ehR w0 (jn - 1).toNat).2.2 j9 ≤ 200 := fun j9 hj9 => by have := eh16 hw5 (by omega) (jn - 1).toNat j9 hj9; omega
              have hne9 := oo9.2.2.1
              refine gz_call rfl (by decide) rfl (by decide) (by decide) (gcal_of rfl rfl rfl (Nat.le_of_ble_eq_true rfl) (gJ.recv (G := gGG) sq24.1 tx rfl rfl)) (cw_Suited1_joinGroups _ sq24.1 x tx zq18 ⟨by omega, by omega⟩ zq24 ⟨by omega, by omega⟩ un s25 ⟨by omega, by omega⟩ ((ehR w0 (jn - 1).toNat).1) ((ehR w0 (jn - 1).toNat).2.1) ((ehR w0 (jn - 1).toNat).2.2) u9 w0 (by omega) uq pr27 pr28 pr29 pr26 lp8k4 hu9 wm9 lm9) (fun q30 _ wq30 => ?_)
              obtain ⟨pq30, oq30, hq30⟩ := q30
              obtain ⟨xq30, gq30, yq30_0, yq30_1, yq30_2⟩ := wq30
              refine ⟨_, gq30, ?_⟩
              show gz gPP gGG gcn _ _ 89 [some (.ref x), some (.int (zi jn)), some (.int (zi zq18))] [] hq30 _
              have sq30 : gSs rT 1027 ty [76999, 77999, 78999, 79999, 80999, 81999, 85999, 92004, 92008] h hq30 := gSs.tr sq24 xq30 (by decide)
              have s31 := (xq30.2.2.2.2.2 x 8 (by rw [tx]; decide)).trans s25
              have pr32 := gRn.fr xq30.2 (by decide) pr26
              have hR : (ehR w0 (jn + 1 - 1).toNat) = ehJ (zq18).toNat (zq24).toNat ((ehR w0 (jn - 1).toNat).1, (ehR w0 (jn - 1).toNat).2.1, (ehR w0 (jn - 1).toNat).2.2) := by
                rw [(by omega : (jn + 1 - 1).toNat = (jn - 1).toNat + 1)]
                show ehS (ehR w0 (jn - 1).toNat) = _
                rw [ee9, hza, hzb]
              have hrw33 : gRn 257 ty 80 ((ehR w0 (jn + 1 - 1).toNat).1) hq30 := by rw [hR]; exact yq30_0
              have hrw34 : gRn 257 ty 81 ((ehR w0 (jn + 1 - 1).toNat).2.1) hq30 := by rw [hR]; exact yq30_1
              have hrw35 : gRn 257 ty 79 ((ehR w0 (jn + 1 - 1).toNat).2.2) hq30 := by rw [hR]; exact yq30_2
              refine gy_s 2 (pc' := 65) (L' := [some (.ref x), some (.int ((zi jn) + zi 1)), some (.int (zi zq18))]) (S' := []) (L2 := [some (.ref x), some (.int (zi (jn + 1))), some (.int (zi zq18))]) (S2 := []) rfl (by simp only [zi_add, zi_sub, zi_mul, zi_neg, zi_and1, zi_and7, zi_and15, zi_and31, zi_and255]) (by simp only [zi_add, zi_sub, zi_mul, zi_neg, zi_and1, zi_and7, zi_and15, zi_and31, zi_and255]) ?_
              exact gz_wk (ihlp8 hq30 (jn + 1) (by omega) sq30 (by omega) (by omega) s31 lp8k1 lp8k2 pr32 lp8k4 hrw33 hrw34 hrw35) (gLw.s (gLw.s (gLw.n gLw.z)))
        exact gz_wk (lp8 _ h6 1 (Nat.lt_succ_self _) sh6 (by omega) (by omega) lp3k0 lp3k2 lp3k3 ru9 us9 (show gRn 257 ty 80 (ehR w0 (1 - 1 : Int).toNat).1 h6 from lp3k1) (show gRn 257 ty 81 (ehR w0 (1 - 1 : Int).toNat).2.1 h6 from lp3k5) (show gRn 257 ty 79 (ehR w0 (1 - 1 : Int).toNat).2.2 h6 from lp3k4)) (gLw.s (gLw.s (gLw.n gLw.z)))
      · refine gy_icF rfl (by decide) (by decide) (by omega) (by omega) hc7 ?_
        refine gz_s 1 (pc' := 15) (L' := [some (.ref x), some (.int (zi sy)), none]) (S' := [.ref x]) rfl ?_
        refine gs_gtr rfl (by decide) rfl sh6.1 tx rfl rfl rfl (fun c36 ec36 tc36 => ?_)
        refine gz_s 2 (pc' := 20) (L' := [some (.ref x), some (.int (zi sy)), none]) (S' := [.int (zi 0), .int (zi sy), .ref c36]) rfl ?_
        have hl37 : 257 ≤ h6.2.2.2.1 c36 ∧ h6.2.2.2.1 c36 ≤ 257 := gJ.rowl (G := gGG) sh6.1 tc36 rfl
        refine gs_ast rfl (by decide) sh6 tc36 rfl rfl rfl (by decide) (fun _ => rfl) (by omega) (by omega) (fun _ => (by decide : (79999 : Nat) ∈ ([76999, 77999, 78999, 79999, 80999, 81999, 85999, 92004, 92008] : List Nat))) (by omega) (by omega) (fun h38 sh38 eh38 fh38 => ?_)
        have pr39 := gRn.pt fh38 tc36 (by decide) lp3k1
        have pr40 := gRn.pt fh38 tc36 (by decide) lp3k5
        have pr41 := gUf.pt fh38 tc36 (by decide) lp3k6
        have s42 := (fh38 x 8 (fun q => absurd (((tx).symm.trans (congrArg ty q.1)).trans tc36) (by decide))).trans lp3k0
        have s43 := (fh38 x 3 (fun q => absurd (((tx).symm.trans (congrArg ty q.1)).trans tc36) (by decide))).trans ec36
        have pr44 := gEl.set (i := sy) (z := 0) uq tc36 (by decide) eh38 (by omega) (by omega)
        have hrw45 : gRn (sy + 1).toNat ty 79 (fun _ => 0) h38 := gRn.ext (z := 0) uq tc36 (by decide) fh38 eh38 (by omega) (by omega) (by omega) rfl lp3k4
        refine gz_s 1 (pc' := 22) (L' := [some (.ref x), some (.int (zi sy)), none]) (S' := [.ref x]) rfl ?_
        refine gs_gtr rfl (by decide) rfl sh38.1 tx rfl rfl rfl (fun c46 ec46 tc46 => ?_)
        refine gz_s 2 (pc' := 27) (L' := [some (.ref x), some (.int (zi sy)), none]) (S' := [.int (zi sy), .int (zi sy), .ref c46]) rfl ?_
        have hl47 : 257 ≤ h38.2.2.2.1 c46 ∧ h38.2.2.2.1 c46 ≤ 257 := gJ.rowl (G := gGG) sh38.1 tc46 rfl
        refine gs_ast rfl (by decide) sh38 tc46 rfl rfl rfl (by decide) (fun _ => rfl) (by omega) (by omega) (fun _ => (by decide : (81999 : Nat) ∈ ([76999, 77999, 78999, 79999, 80999, 81999, 85999, 92004, 92008] : List Nat))) (by omega) (by omega) (fun h48 sh48 eh48 fh48 => ?_)
        have pr49 := gRn.pt fh48 tc46 (by decide) pr39
        have pr50 := gUf.pt fh48 tc46 (by decide) pr41
        have pr51 := gEl.pt fh48 tc46 (by decide) pr44
        have pr52 := gRn.pt fh48 tc46 (by decide) hrw45
        have s53 := (fh48 x 8 (fun q => absurd (((tx).symm.trans (congrArg ty q.1)).trans tc46) (by decide))).trans s42
        have s54 := (fh48 x 3 (fun q => absurd (((tx).symm.trans (congrArg ty q.1)).trans tc46) (by decide))).trans s43
        have s55 := (fh48 x 6 (fun q => absurd (((tx).symm.trans (congrArg ty q.1)).trans tc46) (by decide))).trans ec46
        have pr56 := gEl.set (i := sy) (z := sy) uq tc46 (by decide) eh48 (by omega) (by omega)
        have hrw57 : gRn (sy + 1).toNat ty 81 (fun j9 => (j9 : Int)) h48 := gRn.ext (z := sy) uq tc46 (by decide) fh48 eh48 (by omega) (by omega) (by omega) (by show sy = (((sy).toNat : Nat) : Int); omega) pr40
        refine gz_s 1 (pc' := 29) (L' := [some (.ref x), some (.int (zi sy)), none]) (S' := [.ref x]) rfl ?_
        refine gs_gtr rfl (by decide) rfl sh48.1 tx rfl rfl rfl (fun c58 ec58 tc58 => ?_)
        refine gz_s 1 (pc' := 33) (L' := [some (.ref x), some (.int (zi sy)), none]) (S' := [.int (zi sy), .ref c58]) rfl ?_
        have hl59 : 257 ≤ h48.2.2.2.1 c58 ∧ h48.2.2.2.1 c58 ≤ 257 := gJ.rowl (G := gGG) sh48.1 tc58 rfl
        refine gs_ald rfl (by decide) sh48.1 tc58 rfl rfl rfl (by decide) (fun _ => rfl) (by omega) (by omega) (fun z60 ez60 az60 bz60 => ?_)
        have hf61 := gRn.at (i := sy) (z := z60) pr49 tc58 ez60 (by omega) (by omega) (by omega)
        by_cases hc62 : (z60 : Int) ≤ 0
        · refine gy_ifT (pc' := 57) rfl (by decide) (by decide) (by omega) hc62 ?_
          have huf63 : gUf ty 85 w0 un (sy + 1) h48 := by
            obtain ⟨u8, a8, b8⟩ := pr50
            exact ⟨u8, a8, b8.pass (by omega) (by have h9 := hf61; omega)⟩
          refine gy_s 2 (pc' := 7) (L' := [some (.ref x), some (.int ((zi sy) + zi 1)), none]) (S' := []) (L2 := [some (.ref x), some (.int (zi (sy + 1))), none]) (S2 := []) rfl (by simp only [zi_add, zi_sub, zi_mul, zi_neg, zi_and1, zi_and7, zi_and15, zi_and31, zi_and255]) (by simp only [zi_add, zi_sub, zi_mul, zi_neg, zi_and1, zi_and7, zi_and15, zi_and31, zi_and255]) ?_
          exact gz_wk (ihlp3 h48 (sy + 1) un (by omega) sh48 (by omega) (by omega) (by omega) s53 pr49 lp3k2 lp3k3 pr52 hrw57 huf63) (gLw.s (gLw.s (gLw.n gLw.z)))
        · refine gy_ifF rfl (by decide) (by decide) (by omega) hc62 ?_
          refine gz_s 1 (pc' := 38) (L' := [some (.ref x), some (.int (zi sy)), none]) (S' := [.ref x]) rfl ?_
          refine gs_gtr rfl (by decide) rfl sh48.1 tx rfl rfl rfl (fun c64 ec64 tc64 => ?_)
          have ee65 : c4 = c64 := uq c4 c64 (tc4.trans tc64.symm) (by rw [tc4]; decide) (by rw [tc4]; decide)
          subst ee65
          refine gz_s 1 (pc' := 42) (L' := [some (.ref x), some (.int (zi sy)), none]) (S' := [.ref x, .ref c4]) rfl ?_
          refine gs_gtk rfl (by decide) rfl sh48.1 tx rfl rfl s53 ?_
          refine gz_s 1 (pc' := 46) (L' := [some (.ref x), some (.int (zi sy)), none]) (S' := [.int (zi sy), .int (zi un), .ref c4]) rfl ?_
          obtain ⟨u9, ru9, iu9⟩ := pr50
          have hl66 : 257 ≤ h48.2.2.2.1 c4 ∧ h48.2.2.2.1 c4 ≤ 257 := gJ.rowl (G := gGG) sh48.1 tc4 rfl
          refine gs_ast rfl (by decide) sh48 tc4 rfl rfl rfl (by decide) (fun _ => rfl) (by omega) (by omega) (fun _ => (by decide : (85999 : Nat) ∈ ([76999, 77999, 78999, 79999, 80999, 81999, 85999, 92004, 92008] : List Nat))) (by omega) (by omega) (fun h67 sh67 eh67 fh67 => ?_)
          have pr68 := gRn.pt fh67 tc4 (by decide) pr49
          have pr69 := gEl.pt fh67 tc4 (by decide) pr51
          have pr70 := gRn.pt fh67 tc4 (by decide) pr52
          have pr71 := gEl.pt fh67 tc4 (by decide) pr56
          have pr72 := gRn.pt fh67 tc4 (by decide) hrw57
          have pr73 := gRn.put (i := un) (z := sy) uq tc4 (by decide) fh67 eh67 (by omega) (by omega) ru9
          have s74 := (fh67 x 8 (fun q => absurd (((tx).symm.trans (congrArg ty q.1)).trans tc4) (by decide))).trans s53
          have s75 := (fh67 x 3 (fun q => absurd (((tx).symm.trans (congrArg ty q.1)).trans tc4) (by decide))).trans s54
          have s76 := (fh67 x 6 (fun q => absurd (((tx).symm.trans (congrArg ty q.1)).trans tc4) (by decide))).trans s55
          have s77 := (fh67 x 5 (fun q => absurd (((tx).symm.trans (congrArg ty q.1)).trans tc4) (by decide))).trans ec58
          have s78 := (fh67 x 7 (fun q => absurd (((tx).symm.trans (congrArg ty q.1)).trans tc4) (by decide))).trans ec64
          have pr79 := gEl.set (i := un) (z := sy) uq tc4 (by decide) eh67 (by omega) (by omega)
          have huf80 : gUf ty 85 w0 (un + 1) (sy + 1) h67 := ⟨_, pr73, iu9.put (by omega) (by omega) (by have h9 := hf61; omega)⟩
          refine gz_s 2 (pc' := 49) (L' := [some (.ref x), some (.int (zi sy)), none]) (S' := [.ref x, .ref x]) rfl ?_
          refine gs_gtk rfl (by decide) rfl sh67.1 tx rfl rfl s74 ?_
          refine gy_s 2 (pc' := 54) (L' := [some (.ref x), some (.int (zi sy)), none]) (S' := [.int ((zi un) + (zi 1)), .ref x]) (L2 := [some (.ref x), some (.int (zi sy)), none]) (S2 := [.int (zi (un + 1)), .ref x]) rfl (by simp only [zi_add, zi_sub, zi_mul, zi_neg, zi_and1, zi_and7, zi_and15, zi_and31, zi_and255]) (by simp only [zi_add, zi_sub, zi_mul, zi_neg, zi_and1, zi_and7, zi_and15, zi_and31, zi_and255]) ?_
          refine gs_put rfl (by decide) rfl sh67 tx rfl rfl rfl rfl (Or.inl rfl) (by decide) (by omega) (by omega) (fun h81 sh81 eh81 fh81 => ?_)
          have pr82 := gRn.pt fh81 tx (by decide) pr68
          have pr83 := gEl.pt fh81 tx (by decide) pr69
          have pr84 := gRn.pt fh81 tx (by decide) pr70
          have pr85 := gEl.pt fh81 tx (by decide) pr71
          have pr86 := gRn.pt fh81 tx (by decide) pr72
          have pr87 := gEl.pt fh81 tx (by decide) pr79
          have pr88 := gUf.pt fh81 tx (by decide) huf80
          have s89 := (fh81 x 3 (fun q => absurd q.2 (by decide))).trans s75
          have s90 := (fh81 x 6 (fun q => absurd q.2 (by decide))).trans s76
          have s91 := (fh81 x 5 (fun q => absurd q.2 (by decide))).trans s77
          have s92 := (fh81 x 7 (fun q => absurd q.2 (by decide))).trans s78
          refine gy_s 2 (pc' := 7) (L' := [some (.ref x), some (.int ((zi sy) + zi 1)), none]) (S' := []) (L2 := [some (.ref x), some (.int (zi (sy + 1))), none]) (S2 := []) rfl (by simp only [zi_add, zi_sub, zi_mul, zi_neg, zi_and1, zi_and7, zi_and15, zi_and31, zi_and255]) (by simp only [zi_add, zi_sub, zi_mul, zi_neg, zi_and1, zi_and7, zi_and15, zi_and31, zi_and255]) ?_
          exact gz_wk (ihlp3 h81 (sy + 1) (un + 1) (by omega) sh81 (by omega) (by omega) (by omega) eh81 pr82 lp3k2 lp3k3 pr84 pr86 pr88) (gLw.s (gLw.s (gLw.n gLw.z)))
  exact gz_wk (lp3 _ h1 0 0 (Nat.lt_succ_self _) sh1 (by omega) (by omega) (by omega) eh1 pr2 hywb hyw6 (gRn.nil (fun _ => rfl)) (gRn.nil (fun _ => rfl)) huf5) (gLw.s (gLw.s (gLw.n gLw.z)))
