/-! ===== the same run where more is known of the locals ===== -/
def gLw (L L2 : gL) : Prop := L2.length = L.length ∧ ∀ (i : Nat) (v : Value), L[i]? = some (some v) → L2[i]? = some (some v)
section GWK
variable {L L1 L2 : gL} {i n pc pc' : Nat} {v : Value} {S S' : List Value}
theorem gLw.rf : gLw L L := ⟨rfl, fun _ _ h => h⟩
theorem gkill_w (h : gLw L L2) : gLw (gkill L i) (gkill L2 i) := by
  refine ⟨by rw [gkill_len, gkill_len]; exact h.1, fun j v hj => ?_⟩
  obtain ⟨h1, h2⟩ := gkill_at hj
  have h3 := h.2 j v h1
  unfold gkill
  split
  · exact h3
  · rename_i k
    split
    · rename_i w hw
      split
      · rename_i hc
        rw [List.getElem?_set]
        split
        · rename_i e
          subst e
          rw [hw] at h3
          cases h3
          exact absurd ⟨rfl, hc⟩ h2
        · exact h3
      · exact h3
    · exact h3
theorem gset_w {o : Option Value} (h : gLw L L2) : gLw (L.set i o) (L2.set i o) := by
  refine ⟨by simp [h.1], fun j w hj => ?_⟩
  rw [List.getElem?_set] at hj ⊢
  split at hj
  · rename_i e
    rw [if_pos e, h.1]
    exact hj
  · rename_i e
    rw [if_neg e]
    exact h.2 j w hj
theorem gsto1_w (h : gLw L L2) : gLw (gsto1 L i v) (gsto1 L2 i v) := gset_w (gkill_w h)
theorem gsto2_w (h : gLw L L2) : gLw (gsto2 L i v) (gsto2 L2 i v) := gset_w (gset_w (gkill_w h))
theorem gild_w {k : Nat} (g : gild n k pc i L S = some (pc', L1, S')) (h : gLw L L2) : ∃ L3, gild n k pc i L2 S = some (pc', L3, S') ∧ gLw L1 L3 := by
  unfold gild at g
  split at g
  · rename_i x hx
    split at g
    · rename_i hn
      cases g
      refine ⟨L2, ?_, h⟩
      unfold gild
      rw [h.2 _ _ hx]
      (try dsimp only)
      rw [if_pos hn]
    · cases g
  · cases g
theorem glld_w {k : Nat} (g : glld n k pc i L S = some (pc', L1, S')) (h : gLw L L2) : ∃ L3, glld n k pc i L2 S = some (pc', L3, S') ∧ gLw L1 L3 := by
  unfold glld at g
  split at g
  · rename_i x hx
    split at g
    · rename_i hn
      cases g
      refine ⟨L2, ?_, h⟩
      unfold glld
      rw [h.2 _ _ hx]
      (try dsimp only)
      rw [if_pos hn]
    · cases g
  · cases g
theorem gald_w {k : Nat} (g : gald n k pc i L S = some (pc', L1, S')) (h : gLw L L2) : ∃ L3, gald n k pc i L2 S = some (pc', L3, S') ∧ gLw L1 L3 := by
  unfold gald at g
  split at g
  · rename_i x hx
    split at g
    · rename_i hn
      cases g
      refine ⟨L2, ?_, h⟩
      unfold gald
      rw [h.2 _ _ hx]
      (try dsimp only)
      rw [if_pos hn]
    · cases g
  · rename_i hx
    split at g
    · rename_i hn
      cases g
      refine ⟨L2, ?_, h⟩
      unfold gald
      rw [h.2 _ _ hx]
      (try dsimp only)
      rw [if_pos hn]
    · cases g
  · cases g
theorem gist_w {k : Nat} (g : gist n k pc i L S = some (pc', L1, S')) (h : gLw L L2) : ∃ L3, gist n k pc i L2 S = some (pc', L3, S') ∧ gLw L1 L3 := by
  unfold gist at g ⊢
  split at g
  · split at g
    · rename_i hn
      cases g
      refine ⟨_, ?_, gsto1_w h⟩
      (try dsimp only)
      rw [if_pos (by rw [h.1]; exact hn)]
    · cases g
  · cases g
theorem glst_w {k : Nat} (g : glst n k pc i L S = some (pc', L1, S')) (h : gLw L L2) : ∃ L3, glst n k pc i L2 S = some (pc', L3, S') ∧ gLw L1 L3 := by
  unfold glst at g ⊢
  split at g
  · split at g
    · rename_i hn
      cases g
      refine ⟨_, ?_, gsto2_w h⟩
      (try dsimp only)
      rw [if_pos (by rw [h.1]; exact hn)]
    · cases g
  · cases g
theorem gast_w {k : Nat} (g : gast n k pc i L S = some (pc', L1, S')) (h : gLw L L2) : ∃ L3, gast n k pc i L2 S = some (pc', L3, S') ∧ gLw L1 L3 := by
  unfold gast at g ⊢
  split at g
  · split at g
    · rename_i hn
      cases g
      refine ⟨_, ?_, gsto1_w h⟩
      (try dsimp only)
      rw [if_pos (by rw [h.1]; exact hn)]
    · cases g
  · cases g
theorem giinc_w {d : Int} (g : giinc n pc i d L S = some (pc', L1, S')) (h : gLw L L2) : ∃ L3, giinc n pc i d L2 S = some (pc', L3, S') ∧ gLw L1 L3 := by
  unfold giinc at g
  split at g
  · rename_i x hx
    split at g
    · rename_i hn
      cases g
      refine ⟨_, ?_, gsto1_w h⟩
      unfold giinc
      rw [h.2 _ _ hx]
      (try dsimp only)
      rw [if_pos (by rw [h.1]; exact hn)]
    · cases g
  · cases g
theorem gtgt_w {off : Int} (g : gtgt pc off L S = some (pc', L1, S')) (h : gLw L L2) : ∃ L3, gtgt pc off L2 S = some (pc', L3, S') ∧ gLw L1 L3 := by
  unfold gtgt at g ⊢
  split at g
  · rename_i hn
    cases g
    exact ⟨L2, by rw [if_pos hn], h⟩
  · cases g
theorem gtab_w {df lo hi : Int} {offs : Array Int} (g : gtab pc df lo hi offs L S = some (pc', L1, S')) (h : gLw L L2) : ∃ L3, gtab pc df lo hi offs L2 S = some (pc', L3, S') ∧ gLw L1 L3 := by
  unfold gtab at g
  split at g
  · unfold gtab
    split at g
    · rename_i hc
      dsimp only
      rw [if_pos hc]
      exact gtgt_w g h
    · rename_i hc
      dsimp only
      rw [if_neg hc]
      split at g
      · rename_i off ho
        (try rw [ho])
        exact gtgt_w g h
      · cases g
  · cases g
theorem glook_w {df : Int} {ps : Array (Int × Int)} (g : glook pc df ps L S = some (pc', L1, S')) (h : gLw L L2) : ∃ L3, glook pc df ps L2 S = some (pc', L3, S') ∧ gLw L1 L3 := by
  unfold glook at g
  split at g
  · unfold glook
    split at g
    · rename_i hc
      dsimp only
      rw [if_pos hc]
      exact gtgt_w g h
    · cases g
  · cases g
/-- what leaves the locals alone -/
theorem gfree_w {f : gL → Option gN} (hf : ∀ L, ∃ o : Option (Nat × List Value), f L = o.map (fun q => (q.1, L, q.2)) ∧ ∀ L', f L' = o.map (fun q => (q.1, L', q.2))) (g : f L = some (pc', L1, S')) (h : gLw L L2) : ∃ L3, f L2 = some (pc', L3, S') ∧ gLw L1 L3 := by
  obtain ⟨o, e, e2⟩ := hf L
  rw [e] at g
  cases o with
  | none => cases g
  | some q =>
    cases g
    exact ⟨L2, e2 L2, h⟩
theorem gst0_w {I : Instr} (g : gst0 I n pc L S = some (pc', L1, S')) (h : gLw L L2) : ∃ L3, gst0 I n pc L2 S = some (pc', L3, S') ∧ gLw L1 L3 := by
  cases I <;> simp only [gst0] at g ⊢
  all_goals first
    | (cases g; done)
    | exact gild_w g h
    | exact glld_w g h
    | exact gald_w g h
    | exact gist_w g h
    | exact glst_w g h
    | exact gast_w g h
    | exact giinc_w g h
    | exact gtab_w g h
    | exact glook_w g h
    | ((try simp only [gpush, gII, gLL, gLI, gI1, gL1, gtgt, gif, gicmp, gnn, gtab, glook, gdup, gdup2, gpop] at g ⊢)
       repeat' split at g
       all_goals first
         | (cases g; done)
         | (cases g
            refine ⟨L2, ?_, h⟩
            simp_all))
theorem gst1_0 {G : gG} {cn : Nat → Option Nat} {K : gK} {ini : Option Nat} {I : Instr} {h : gH} {q : gR} (g : gst1 G cn K ini I n pc S h = some q) : gst0 I n pc L2 S = none := by
  cases I <;> simp only [gst1] at g <;> first | (cases g; done) | rfl
end GWK
theorem go_wk {P : Nat → Option gMt} {G : gG} {cn : Nat → Option Nat} : ∀ (n d : Nat) (t : gMt) (pc : Nat) (L L2 : gL) (S : List Value) (h : gH) (r : gR) (L' : gL), go P G cn n d t pc L S h = some (r, L') → gLw L L2 → ∃ L3, go P G cn n d t pc L2 S h = some (r, L3) := by
  intro n
  induction n with
  | zero => intro d t pc L L2 S h r L' g; cases g
  | succ n ih =>
    intro d t pc L L2 S h r L' g hL
    rw [go] at g
    rw [go]
    split at g
    · cases g
    · rename_i I len hlk
      (try dsimp only)
      split at g
      · rename_i hex
        cases g
        rw [if_pos hex]
        exact ⟨L2, rfl⟩
      · rename_i hex
        rw [if_neg hex]
        split at g
        · rename_i k idx hci
          (try dsimp only)
          split at g
          · cases g
          · rename_i hd0
            rw [if_neg hd0]
            split at g
            · rename_i hT
              rw [if_pos hT]
              split at g
              · rename_i hk0
                rw [if_pos hk0]
                split at g
                · exact ih _ _ _ _ _ _ _ _ _ g hL
                · cases g
              · cases g
            · rename_i hT
              rw [if_neg hT]
              split at g
              · rename_i hT4
                rw [if_pos hT4]
                split at g
                · rename_i hk0
                  rw [if_pos hk0]
                  split at g
                  · exact ih _ _ _ _ _ _ _ _ _ g hL
                  · cases g
                · cases g
              rename_i hT4
              rw [if_neg hT4]
              split at g
              · split at g
                · split at g
                  · rename_i hfin
                    (try dsimp only)
                    (try rw [hfin])
                    exact ih _ _ _ _ _ _ _ _ _ g hL
                  · cases g
                · cases g
              · cases g
        · (try dsimp only)
          split at g
          · rename_i pc1 L1 S1 hs0
            obtain ⟨L3, e3, w3⟩ := gst0_w hs0 hL
            rw [e3]
            (try dsimp only)
            exact ih _ _ _ _ _ _ _ _ _ g w3
          · rename_i hn
            split at g
            · rename_i pc1 S1 h1 hs1
              have h0 : gst0 I len pc L2 S = none := gst1_0 hs1
              rw [h0]
              (try dsimp only)
              exact ih _ _ _ _ _ _ _ _ _ g hL
            · cases g
theorem gz_wk {P : Nat → Option gMt} {G : gG} {cn : Nat → Option Nat} {d : Nat} {t : gMt} {pc : Nat} {L L2 : gL} {S : List Value} {h : gH} {F : gR → Prop} (k : gz P G cn d t pc L S h (fun q _ => F q)) (hL : gLw L L2) : gz P G cn d t pc L2 S h (fun q _ => F q) := by
  obtain ⟨n, r, L', g, hF⟩ := k
  obtain ⟨L3, e⟩ := go_wk _ _ _ _ _ _ _ _ _ _ g hL
  exact ⟨n, r, L3, e, hF⟩
