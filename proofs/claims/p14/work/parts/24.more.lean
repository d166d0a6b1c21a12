/-! ===== the same run over a heap of which more is known, or that has some cells more ===== -/
def gLe (j : Nat) (h h' : gH) : Prop := h'.1 = h.1 + j ∧ h'.2.1 = h.2.1 ∧ ∀ a, a < h.1 → h.2.2.1 a ≠ none → h'.2.2.1 a = h.2.2.1 a ∧ h'.2.2.2.1 a = h.2.2.2.1 a ∧ ∀ k, h'.2.2.2.2 a k = h.2.2.2.2 a k
def gSt (j : Nat) (h h' hh hh' : gH) : Prop := gLe j hh hh' ∧ h.1 ≤ hh.1 ∧ (∀ a, a < h.1 → hh.2.2.1 a = h.2.2.1 a) ∧ ∀ a, a < h.1 → h.2.2.1 a = none → hh'.2.2.1 a = h'.2.2.1 a ∧ hh'.2.2.2.1 a = h'.2.2.2.1 a ∧ ∀ k, hh'.2.2.2.2 a k = h'.2.2.2.2 a k
theorem gLe.lt {j : Nat} {h h' : gH} {a : Nat} (hle : gLe j h h') (ha : a < h.1) : a < h'.1 := by
  have := hle.1
  omega
theorem gSt.rf {j : Nat} {h h' : gH} (hle : gLe j h h') : gSt j h h' h h' := ⟨hle, Nat.le_refl _, fun _ _ => rfl, fun _ _ _ => ⟨rfl, rfl, fun _ => rfl⟩⟩
theorem gSt.tr {j : Nat} {h h' h1 h1' h2 h2' : gH} (a : gSt j h h' h1 h1') (b : gSt j h1 h1' h2 h2') : gSt j h h' h2 h2' := by
  refine ⟨b.1, Nat.le_trans a.2.1 b.2.1, fun q hq => (b.2.2.1 q (Nat.lt_of_lt_of_le hq a.2.1)).trans (a.2.2.1 q hq), fun q hq hn => ?_⟩
  obtain ⟨x1, x2, x3⟩ := a.2.2.2 q hq hn
  obtain ⟨y1, y2, y3⟩ := b.2.2.2 q (Nat.lt_of_lt_of_le hq a.2.1) ((a.2.2.1 q hq).trans hn)
  exact ⟨y1.trans x1, y2.trans x2, fun k => (y3 k).trans (x3 k)⟩
theorem gSt.put {j : Nat} {h h' : gH} {a k : Nat} {v : Value} (hle : gLe j h h') (hk : h.2.2.1 a ≠ none) : gSt j h h' (gput h a k v) (gput h' a k v) := by
  refine ⟨⟨hle.1, hle.2.1, fun b hb hn => ?_⟩, Nat.le_refl _, fun _ _ => rfl, fun b hb hn => ⟨rfl, rfl, fun i => ?_⟩⟩
  · obtain ⟨x1, x2, x3⟩ := hle.2.2 b hb hn
    refine ⟨x1, x2, fun i => ?_⟩
    show gup h'.2.2.2.2 a k v b i = gup h.2.2.2.2 a k v b i
    unfold gup
    rw [x3 i]
  · show gup h'.2.2.2.2 a k v b i = h'.2.2.2.2 b i
    unfold gup
    rw [if_neg (fun e => hk (by rw [← e]; exact hn))]
theorem gSt.new {h h' : gH} {t : Option (Nat ⊕ Nat)} {len slots : Nat} {f : Nat → Value} (hle : gLe 0 h h') : gSt 0 h h' (gnew h t len slots f) (gnew h' t len slots f) := by
  have e : h'.1 = h.1 := hle.1
  refine ⟨⟨?_, ?_, fun b hb hn => ?_⟩, Nat.le_succ _, fun b hb => if_neg (by omega), fun b hb hn => ?_⟩
  · show h'.1 + 1 = h.1 + 1
    rw [e]
  · show h'.2.1 + slots = h.2.1 + slots
    rw [hle.2.1]
  · have hb : b < h.1 + 1 := hb
    by_cases hbe : b = h.1
    · subst hbe
      refine ⟨?_, ?_, fun k => ?_⟩
      · show (if h.1 = h'.1 then t else h'.2.2.1 h.1) = (if h.1 = h.1 then t else h.2.2.1 h.1)
        rw [if_pos e.symm, if_pos rfl]
      · show (if h.1 = h'.1 then len else h'.2.2.2.1 h.1) = (if h.1 = h.1 then len else h.2.2.2.1 h.1)
        rw [if_pos e.symm, if_pos rfl]
      · show (if h.1 = h'.1 then f else h'.2.2.2.2 h.1) k = (if h.1 = h.1 then f else h.2.2.2.2 h.1) k
        rw [if_pos e.symm, if_pos rfl]
    · have hb2 : b < h.1 := by omega
      have hn2 : h.2.2.1 b ≠ none := by
        have : (if b = h.1 then t else h.2.2.1 b) ≠ none := hn
        rwa [if_neg hbe] at this
      obtain ⟨x1, x2, x3⟩ := hle.2.2 b hb2 hn2
      refine ⟨?_, ?_, fun k => ?_⟩
      · show (if b = h'.1 then t else h'.2.2.1 b) = (if b = h.1 then t else h.2.2.1 b)
        rw [if_neg (by omega), if_neg hbe, x1]
      · show (if b = h'.1 then len else h'.2.2.2.1 b) = (if b = h.1 then len else h.2.2.2.1 b)
        rw [if_neg (by omega), if_neg hbe, x2]
      · show (if b = h'.1 then f else h'.2.2.2.2 b) k = (if b = h.1 then f else h.2.2.2.2 b) k
        rw [if_neg (by omega), if_neg hbe, x3]
  · refine ⟨?_, ?_, fun k => ?_⟩
    · show (if b = h'.1 then t else h'.2.2.1 b) = _
      rw [if_neg (by omega)]
    · show (if b = h'.1 then len else h'.2.2.2.1 b) = _
      rw [if_neg (by omega)]
    · show (if b = h'.1 then f else h'.2.2.2.2 b) k = _
      rw [if_neg (by omega)]
theorem gnn_of {x : Option (Nat ⊕ Nat)} {y : Nat ⊕ Nat} (h : x = some y) : x ≠ none := by
  rw [h]
  exact fun q => by cases q
section GLE
variable {G : gG} {cn : Nat → Option Nat} {K : gK} {ini : Option Nat} {n pc pc' j : Nat} {S S' : List Value} {h h' hh : gH}
theorem ggetf_le {idx : Nat} (g : ggetf K G idx n pc S h = some (pc', S', hh)) (hle : gLe j h h') : ∃ hh', ggetf K G idx n pc S h' = some (pc', S', hh') ∧ gSt j h h' hh hh' := by
  unfold ggetf at g
  split at g
  · rename_i ci k hfl
    split at g
    · split at g
      · rename_i hn
        obtain ⟨h3, h0, h1, h2⟩ := hn
        obtain ⟨rfl, rfl, rfl⟩ := gr_eq g
        obtain ⟨k1, k2, k3⟩ := hle.2.2 _ h1 (gnn_of h2)
        refine ⟨h', ?_, gSt.rf hle⟩
        unfold ggetf
        rw [hfl]
        (try dsimp only)
        rw [if_pos ⟨h3, h0, hle.lt h1, k1.trans h2⟩, k3]
      · cases g
    · cases g
  · cases g
theorem gputf_le {idx : Nat} (g : gputf K G ini idx n pc S h = some (pc', S', hh)) (hle : gLe j h h') : ∃ hh', gputf K G ini idx n pc S h' = some (pc', S', hh') ∧ gSt j h h' hh hh' := by
  unfold gputf at g
  split at g
  · rename_i ci k hfl
    split at g
    · split at g
      · rename_i hn
        obtain ⟨h3, h0, h1, h2, h4, h5⟩ := hn
        obtain ⟨rfl, rfl, rfl⟩ := gr_eq g
        obtain ⟨k1, k2, k3⟩ := hle.2.2 _ h1 (gnn_of h2)
        refine ⟨_, ?_, gSt.put hle (gnn_of h2)⟩
        unfold gputf
        rw [hfl]
        (try dsimp only)
        rw [if_pos ⟨h3, h0, hle.lt h1, k1.trans h2, h4, h5⟩]
      · cases g
    · cases g
  · cases g
theorem gxald_le {ok : FieldType → Bool} (g : gxald G ok n pc S h = some (pc', S', hh)) (hle : gLe j h h') : ∃ hh', gxald G ok n pc S h' = some (pc', S', hh') ∧ gSt j h h' hh hh' := by
  unfold gxald at g
  split at g
  · split at g
    · rename_i t ht
      split at g
      · rename_i ty hty
        split at g
        · rename_i hn
          obtain ⟨h3, h1, h4, h5⟩ := hn
          obtain ⟨rfl, rfl, rfl⟩ := gr_eq g
          obtain ⟨k1, k2, k3⟩ := hle.2.2 _ h1 (gnn_of ht)
          refine ⟨h', ?_, gSt.rf hle⟩
          unfold gxald
          (try dsimp only)
          rw [k1, ht]
          (try dsimp only)
          rw [hty]
          (try dsimp only)
          rw [k2, if_pos ⟨h3, hle.lt h1, h4, h5⟩, k3]
        · cases g
      · cases g
    · cases g
  · cases g
theorem gxlen_le (g : gxlen G n pc S h = some (pc', S', hh)) (hle : gLe j h h') : ∃ hh', gxlen G n pc S h' = some (pc', S', hh') ∧ gSt j h h' hh hh' := by
  unfold gxlen at g
  split at g
  · split at g
    · rename_i t ht
      split at g
      · rename_i ty hty
        split at g
        · rename_i hn
          obtain ⟨h3, h1⟩ := hn
          obtain ⟨rfl, rfl, rfl⟩ := gr_eq g
          obtain ⟨k1, k2, k3⟩ := hle.2.2 _ h1 (gnn_of ht)
          refine ⟨h', ?_, gSt.rf hle⟩
          unfold gxlen
          (try dsimp only)
          rw [k1, ht]
          (try dsimp only)
          rw [hty]
          (try dsimp only)
          rw [k2, if_pos ⟨h3, hle.lt h1⟩]
        · cases g
      · cases g
    · cases g
  · cases g
theorem gxast_le {f : FieldType → Int32 → Option Value} (g : gxast G f n pc S h = some (pc', S', hh)) (hle : gLe j h h') : ∃ hh', gxast G f n pc S h' = some (pc', S', hh') ∧ gSt j h h' hh hh' := by
  unfold gxast at g
  split at g
  · split at g
    · rename_i t ht
      split at g
      · rename_i ty hty
        split at g
        · rename_i v hv
          split at g
          · rename_i hn
            obtain ⟨h3, h0, h1, h4⟩ := hn
            obtain ⟨rfl, rfl, rfl⟩ := gr_eq g
            obtain ⟨k1, k2, k3⟩ := hle.2.2 _ h1 (gnn_of ht)
            refine ⟨_, ?_, gSt.put hle (gnn_of ht)⟩
            unfold gxast
            (try dsimp only)
            rw [k1, ht]
            (try dsimp only)
            rw [hty]
            (try dsimp only)
            rw [hv]
            (try dsimp only)
            rw [k2, if_pos ⟨h3, h0, hle.lt h1, h4⟩]
          · cases g
        · cases g
      · cases g
    · cases g
  · cases g
theorem gilast_le (g : gilast G n pc S h = some (pc', S', hh)) (hle : gLe j h h') : ∃ hh', gilast G n pc S h' = some (pc', S', hh') ∧ gSt j h h' hh hh' := by
  unfold gilast at g
  split at g
  · split at g
    · rename_i t ht
      split at g
      · rename_i hn
        obtain ⟨h2, h3, h0, h1, h4⟩ := hn
        obtain ⟨rfl, rfl, rfl⟩ := gr_eq g
        obtain ⟨k1, k2, k3⟩ := hle.2.2 _ h1 (gnn_of ht)
        refine ⟨_, ?_, gSt.put hle (gnn_of ht)⟩
        unfold gilast
        (try dsimp only)
        rw [k1, ht]
        (try dsimp only)
        rw [k2, if_pos ⟨h2, h3, h0, hle.lt h1, h4⟩]
      · cases g
    · cases g
  · cases g
theorem gaast_le (g : gaast G cn n pc S h = some (pc', S', hh)) (hle : gLe j h h') : ∃ hh', gaast G cn n pc S h' = some (pc', S', hh') ∧ gSt j h h' hh hh' := by
  unfold gaast at g
  split at g
  · split at g
    · rename_i t ht
      split at g
      · rename_i ci hci
        split at g
        · rename_i hn
          obtain ⟨h2, h3, h0, h1, h5, h6, h4⟩ := hn
          obtain ⟨rfl, rfl, rfl⟩ := gr_eq g
          obtain ⟨k1, k2, k3⟩ := hle.2.2 _ h1 (gnn_of ht)
          obtain ⟨m1, m2, m3⟩ := hle.2.2 _ h6 (gnn_of h2)
          refine ⟨_, ?_, gSt.put hle (gnn_of ht)⟩
          unfold gaast
          (try dsimp only)
          rw [k1, ht]
          (try dsimp only)
          rw [hci]
          (try dsimp only)
          rw [k2, if_pos ⟨m1.trans h2, h3, h0, hle.lt h1, h5, hle.lt h6, h4⟩]
        · cases g
      · cases g
    · cases g
  · cases g
theorem gnewa_le {aty : ArrayType} (g : gnewa aty n pc S h = some (pc', S', hh)) (hle : gLe j h h') (hj : j = 0 ∨ hh.1 = h.1) : ∃ hh', gnewa aty n pc S h' = some (pc', S', hh') ∧ gSt j h h' hh hh' := by
  unfold gnewa at g
  split at g
  · split at g
    · rename_i t ht
      split at g
      · rename_i hn
        obtain ⟨rfl, rfl, rfl⟩ := gr_eq g
        have hj0 : j = 0 := hj.elim id (fun q => absurd q (by show ¬ h.1 + 1 = h.1; omega))
        subst hj0
        refine ⟨_, ?_, gSt.new hle⟩
        unfold gnewa
        (try dsimp only)
        rw [ht]
        (try dsimp only)
        rw [if_pos hn, show h'.1 = h.1 from hle.1]
      · cases g
    · cases g
  · cases g
theorem gnewq_le {idx : Nat} (g : gnewq K idx n pc S h = some (pc', S', hh)) (hle : gLe j h h') (hj : j = 0 ∨ hh.1 = h.1) : ∃ hh', gnewq K idx n pc S h' = some (pc', S', hh') ∧ gSt j h h' hh hh' := by
  unfold gnewq at g
  split at g
  · split at g
    · rename_i t ht
      split at g
      · rename_i hn
        obtain ⟨rfl, rfl, rfl⟩ := gr_eq g
        have hj0 : j = 0 := hj.elim id (fun q => absurd q (by show ¬ h.1 + 1 = h.1; omega))
        subst hj0
        refine ⟨_, ?_, gSt.new hle⟩
        unfold gnewq
        (try dsimp only)
        rw [ht]
        (try dsimp only)
        rw [if_pos hn, show h'.1 = h.1 from hle.1]
      · cases g
    · cases g
  · cases g
theorem gnewo_le {idx : Nat} (g : gnewo K G idx n pc S h = some (pc', S', hh)) (hle : gLe j h h') (hj : j = 0 ∨ hh.1 = h.1) : ∃ hh', gnewo K G idx n pc S h' = some (pc', S', hh') ∧ gSt j h h' hh hh' := by
  unfold gnewo at g
  split at g
  · rename_i ci hci
    split at g
    · rename_i hn
      obtain ⟨rfl, rfl, rfl⟩ := gr_eq g
      have hj0 : j = 0 := hj.elim id (fun q => absurd q (by show ¬ h.1 + 1 = h.1; omega))
      subst hj0
      refine ⟨_, ?_, gSt.new hle⟩
      unfold gnewo
      rw [hci]
      (try dsimp only)
      rw [if_pos hn, show h'.1 = h.1 from hle.1]
    · cases g
  · cases g
theorem gst1_le {I : Instr} (g : gst1 G cn K ini I n pc S h = some (pc', S', hh)) (hle : gLe j h h') (hj : j = 0 ∨ hh.1 = h.1) : ∃ hh', gst1 G cn K ini I n pc S h' = some (pc', S', hh') ∧ gSt j h h' hh hh' := by
  cases I <;> simp only [gst1] at g ⊢
  all_goals first
    | (cases g; done)
    | exact ggetf_le g hle
    | exact gputf_le g hle
    | exact gxald_le g hle
    | exact gxlen_le g hle
    | exact gxast_le g hle
    | exact gilast_le g hle
    | exact gaast_le g hle
    | exact gnewa_le g hle hj
    | exact gnewq_le g hle hj
    | exact gnewo_le g hle hj
    | (split at g
       · rename_i v hv
         split at g
         · rename_i hn
           obtain ⟨rfl, rfl, rfl⟩ := gr_eq g
           refine ⟨h', ?_, gSt.rf hle⟩
           rw [if_pos hn]
         · cases g
       · cases g)
theorem gcopy_le (g : gcopy G S h = some (S', hh)) (hle : gLe j h h') : ∃ hh', gcopy G S h' = some (S', hh') ∧ gSt j h h' hh hh' := by
  unfold gcopy at g
  split at g
  · rename_i n dp a sp b rest
    split at g
    · rename_i t t' ht ht'
      split at g
      · rename_i ty hty
        split at g
        · rename_i hn
          obtain ⟨h1, h2, h3, h4, h5, h6, h7, h8, h9, h10, h11, h12, h13⟩ := hn
          cases g
          obtain ⟨k1, k2, k3⟩ := hle.2.2 _ h5 (gnn_of ht)
          obtain ⟨m1, m2, m3⟩ := hle.2.2 _ h6 (gnn_of ht')
          refine ⟨(h'.1, h'.2.1, h'.2.2.1, h'.2.2.2.1, gcpM h'.2.2.2.2 a b sp.toNatClampNeg dp.toNatClampNeg n.toNatClampNeg), ?_, ⟨⟨hle.1, hle.2.1, fun q hq hn => ?_⟩, Nat.le_refl _, fun _ _ => rfl, fun q hq hn => ⟨rfl, rfl, fun i => ?_⟩⟩⟩
          · unfold gcopy
            (try dsimp only)
            rw [k1, m1, ht, ht']
            (try dsimp only)
            rw [hty]
            (try dsimp only)
            rw [if_pos ⟨h1, h2, h3, h4, hle.lt h5, hle.lt h6, h7, h8, h9, by rw [m2]; exact h10, by rw [k2]; exact h11, h12, by
              rw [List.all_eq_true] at h13 ⊢
              intro x hx
              rw [m3]
              exact h13 x hx⟩]
          · obtain ⟨x1, x2, x3⟩ := hle.2.2 q hq hn
            refine ⟨x1, x2, fun i => ?_⟩
            show gcpM h'.2.2.2.2 a b _ _ _ q i = gcpM h.2.2.2.2 a b _ _ _ q i
            unfold gcpM
            rw [x3, m3, k3]
          · show gcpM h'.2.2.2.2 a b _ _ _ q i = h'.2.2.2.2 q i
            unfold gcpM
            rw [if_neg (fun e => gnn_of ht (by rw [← e]; exact hn))]
        · cases g
      · cases g
    · cases g
  · cases g
theorem gcal_le {P : Nat → Option gMt} {n0 k idx : Nat} {t : gMt} {q : gMt × List Value × List Value} (g : gcal P n0 t k idx S h = some q) (hle : gLe j h h') : gcal P n0 t k idx S h' = some q := by
  unfold gcal at g ⊢
  split at g
  · rename_i k' y hT
    (try dsimp only)
    split at g
    · rename_i hk
      rw [if_pos hk]
      split at g
      · rename_i t9 hP
        (try dsimp only)
        split at g
        · rename_i vs rest ha
          (try dsimp only)
          split at g
          · rename_i hn
            have h7 : grecv n0 k t9 vs h' = true := by
              have h2 := hn.2
              unfold grecv at h2 ⊢
              split at h2
              · rename_i hk1
                rw [if_pos hk1]
                split at h2
                · simp only [Bool.and_eq_true, decide_eq_true_eq] at h2 ⊢
                  obtain ⟨⟨b1, b2⟩, b3⟩ := h2
                  obtain ⟨k1, -, -⟩ := hle.2.2 _ b2 (gnn_of b3)
                  exact ⟨⟨b1, hle.lt b2⟩, k1.trans b3⟩
                · cases h2
              · rename_i hk1
                rw [if_neg hk1]
            rw [if_pos ⟨hn.1, h7⟩]
            exact g
          · cases g
        · cases g
      · cases g
    · cases g
  · cases g
end GLE
theorem go_le {P : Nat → Option gMt} {G : gG} {cn : Nat → Option Nat} {j : Nat} : ∀ (n d : Nat) (t : gMt) (pc : Nat) (L : gL) (S : List Value) (h h' : gH) (r : gR) (L' : gL), go P G cn n d t pc L S h = some (r, L') → gLe j h h' → (j = 0 ∨ r.2.2.1 = h.1) →
    ∃ hh', go P G cn n d t pc L S h' = some ((r.1, r.2.1, hh'), L') ∧ gSt j h h' r.2.2 hh' := by
  intro n
  induction n with
  | zero => intro d t pc L S h h' r L' g; cases g
  | succ n ih =>
    intro d t pc L S h h' r L' g hle hj
    rw [go] at g
    rw [go]
    split at g
    · cases g
    · rename_i I len hlk
      (try dsimp only)
      split at g
      · rename_i hex
        cases g
        rw [if_pos hex]
        exact ⟨h', rfl, gSt.rf hle⟩
      · rename_i hex
        rw [if_neg hex]
        split at g
        · rename_i k idx hci
          (try dsimp only)
          split at g
          · cases g
          · rename_i hd0
            rw [if_neg hd0]
            split at g
            · rename_i hT
              rw [if_pos hT]
              split at g
              · rename_i hk0
                rw [if_pos hk0]
                split at g
                · rename_i S1 h1 hc
                  have hg1 := gcopy_grow hc
                  have hg2 := go_grow _ _ _ _ _ _ _ _ _ g
                  obtain ⟨h1', e1, s1⟩ := gcopy_le hc hle
                  rw [e1]
                  (try dsimp only)
                  obtain ⟨h2', e2, s2⟩ := ih _ _ _ _ _ _ _ _ _ g s1.1 (hj.imp id (fun q => by omega))
                  exact ⟨h2', e2, s1.tr s2⟩
                · cases g
              · cases g
            · rename_i hT
              rw [if_neg hT]
              split at g
              · rename_i hT4
                rw [if_pos hT4]
                split at g
                · rename_i hk0
                  rw [if_pos hk0]
                  split at g
                  · exact ih _ _ _ _ _ _ _ _ _ g hle hj
                  · cases g
                · cases g
              rename_i hT4
              rw [if_neg hT4]
              split at g
              · rename_i t' vs rest hcal
                rw [gcal_le hcal hle]
                (try dsimp only)
                split at g
                · rename_i pcx Sx hx L8 hgo
                  split at g
                  · rename_i v hfin
                    have hg1 := go_grow _ _ _ _ _ _ _ _ _ hgo
                    have hg2 := go_grow _ _ _ _ _ _ _ _ _ g
                    have q1 : h.1 ≤ hx.1 := hg1.1
                    have q2 : hx.1 ≤ r.2.2.1 := hg2.1
                    obtain ⟨h1', e1, s1⟩ := ih _ _ _ _ _ _ _ _ _ hgo hle (hj.imp id (fun q => by show hx.1 = h.1; omega))
                    rw [e1]
                    (try dsimp only)
                    rw [hfin]
                    (try dsimp only)
                    obtain ⟨h2', e2, s2⟩ := ih _ _ _ _ _ _ _ _ _ g s1.1 (hj.imp id (fun q => by show r.2.2.1 = hx.1; omega))
                    exact ⟨h2', e2, s1.tr s2⟩
                  · cases g
                · cases g
              · cases g
        · (try dsimp only)
          split at g
          · exact ih _ _ _ _ _ _ _ _ _ g hle hj
          · split at g
            · rename_i pc1 S1 h1 hs1
              have hg1 := gst1_grow hs1
              have hg2 := go_grow _ _ _ _ _ _ _ _ _ g
              obtain ⟨h1', e1, s1⟩ := gst1_le hs1 hle (hj.imp id (fun q => by omega))
              rw [e1]
              (try dsimp only)
              obtain ⟨h2', e2, s2⟩ := ih _ _ _ _ _ _ _ _ _ g s1.1 (hj.imp id (fun q => by omega))
              exact ⟨h2', e2, s1.tr s2⟩
            · cases g
