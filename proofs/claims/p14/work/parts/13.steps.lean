/-! ===== the pure machine, XI: runs step by step ===== -/
theorem go_mono {P : Nat → Option gMt} {G : gG} {cn : Nat → Option Nat} : ∀ (n k d : Nat) (t : gMt) (pc : Nat) (L : gL) (S : List Value) (h : gH) (r : gR × gL), n ≤ k → go P G cn n d t pc L S h = some r → go P G cn k d t pc L S h = some r := by
  intro n
  induction n with
  | zero => intro k d t pc L S h r _ g; cases g
  | succ n ih =>
    intro k d t pc L S h r hk g
    obtain ⟨k, rfl⟩ : ∃ j, k = j + 1 := ⟨k - 1, by omega⟩
    have hk : n ≤ k := by omega
    rw [go] at g ⊢
    split at g
    · cases g
    · rename_i I len hlk
      split at g
      · rename_i hex
        rw [if_pos hex]
        exact g
      · rename_i hex
        rw [if_neg hex]
        split at g
        · rename_i k9 idx hci
          split at g
          · cases g
          · rename_i hd0
            rw [if_neg hd0]
            split at g
            · rename_i hT
              rw [if_pos hT]
              split at g
              · rename_i hk0
                rw [if_pos hk0]
                split at g
                · exact ih _ _ _ _ _ _ _ _ hk g
                · cases g
              · cases g
            · rename_i hT
              rw [if_neg hT]
              split at g
              · rename_i hT4
                rw [if_pos hT4]
                split at g
                · rename_i hk0
                  rw [if_pos hk0]
                  split at g
                  · exact ih _ _ _ _ _ _ _ _ hk g
                  · cases g
                · cases g
              rename_i hT4
              rw [if_neg hT4]
              split at g
              · split at g
                · rename_i hgo
                  rw [ih _ _ _ _ _ _ _ _ hk hgo]
                  split at g
                  · rename_i hfin
                    dsimp only
                    rw [hfin]
                    exact ih _ _ _ _ _ _ _ _ hk g
                  · cases g
                · cases g
              · cases g
        · split at g
          · exact ih _ _ _ _ _ _ _ _ hk g
          · split at g
            · exact ih _ _ _ _ _ _ _ _ hk g
            · cases g
/-- the run from here ends so -/
def gz (P : Nat → Option gMt) (G : gG) (cn : Nat → Option Nat) (d : Nat) (t : gMt) (pc : Nat) (L : gL) (S : List Value) (h : gH) (F : gR → gL → Prop) : Prop := ∃ n r L', go P G cn n d t pc L S h = some (r, L') ∧ F r L'
section GRS
variable {P : Nat → Option gMt} {G : gG} {cn : Nat → Option Nat} {d : Nat} {t : gMt} {pc pc' : Nat} {L L' : gL} {S S' : List Value} {h h' : gH} {F : gR → gL → Prop} {I : Instr} {len : Nat}
theorem gz_end (hlk : glk pc (gmC t) = some (I, len)) (hx : gexit I = true ∨ pc ∈ gmE t) (hF : F (pc, S, h) L) : gz P G cn d t pc L S h F := ⟨1, _, _, by rw [go, hlk]; dsimp only; rw [if_pos hx], hF⟩
theorem gz_0 (hlk : glk pc (gmC t) = some (I, len)) (hx : ¬ (gexit I = true ∨ pc ∈ gmE t)) (hci : gci I = none) (hs : gst0 I len pc L S = some (pc', L', S')) (k : gz P G cn d t pc' L' S' h F) : gz P G cn d t pc L S h F := by
  obtain ⟨n, r, L9, k, hF⟩ := k
  refine ⟨n + 1, r, L9, ?_, hF⟩
  rw [go, hlk]
  dsimp only
  rw [if_neg hx, hci]
  dsimp only
  rw [hs]
  exact k
theorem gz_1 (hlk : glk pc (gmC t) = some (I, len)) (hx : ¬ (gexit I = true ∨ pc ∈ gmE t)) (hci : gci I = none) (h0 : gst0 I len pc L S = none) (hs : gst1 G cn (gmK t) (gmI t) I len pc S h = some (pc', S', h')) (k : gz P G cn d t pc' L S' h' F) : gz P G cn d t pc L S h F := by
  obtain ⟨n, r, L9, k, hF⟩ := k
  refine ⟨n + 1, r, L9, ?_, hF⟩
  rw [go, hlk]
  dsimp only
  rw [if_neg hx, hci]
  dsimp only
  rw [h0]
  dsimp only
  rw [hs]
  exact k
theorem gz_copy {idx : Nat} (hlk : glk pc (gmC t) = some (.invokestatic idx, 3)) (hx : ¬ pc ∈ gmE t) (hd : ¬ d = 0) (hT : gmT t idx = some (3, 0)) (hs : gcopy G S h = some (S', h')) (k : gz P G cn d t (pc + 3) L S' h' F) : gz P G cn d t pc L S h F := by
  obtain ⟨n, r, L9, k, hF⟩ := k
  refine ⟨n + 1, r, L9, ?_, hF⟩
  rw [go, hlk]
  dsimp only
  rw [if_neg (fun q => q.elim (fun z => by cases z) hx)]
  simp only [gci]
  rw [if_neg (fun q => q.elim hd (fun z => z trivial)), if_pos hT, if_pos trivial, hs]
  exact k
theorem gz_obj {idx b : Nat} (hlk : glk pc (gmC t) = some (.invokespecial idx, 3)) (hx : ¬ pc ∈ gmE t) (hd : ¬ d = 0) (hT : gmT t idx = some (4, 0)) (hsm : gsum S' ≤ 8) (k : gz P G cn d t (pc + 3) L S' h F) : gz P G cn d t pc L (.ref b :: S') h F := by
  obtain ⟨n, r, L9, k, hF⟩ := k
  refine ⟨n + 1, r, L9, ?_, hF⟩
  rw [go, hlk]
  dsimp only
  rw [if_neg (fun q => q.elim (fun z => by cases z) hx)]
  simp only [gci]
  rw [if_neg (fun q => q.elim hd (fun z => z trivial)), if_neg (by rw [hT]; decide), if_pos hT, if_pos trivial, show gpop1 (.ref b :: S') = some S' from if_pos hsm]
  exact k
theorem gz_call {k9 idx : Nat} {t' : gMt} {vs rest : List Value} {E : gR → gL → Prop} (hlk : glk pc (gmC t) = some (I, 3)) (hx : ¬ (gexit I = true ∨ pc ∈ gmE t)) (hci : gci I = some (k9, idx)) (hT : ¬ gmT t idx = some (3, 0)) (hT4 : ¬ gmT t idx = some (4, 0)) (hs : gcal P G.2.2.2.2 t k9 idx S h = some (t', vs, rest))
    (hrun : gz P G cn d t' 0 (gent vs (gmL t')) [] h E) (k : ∀ q L8, E q L8 → ∃ v, gfin t' q.1 q.2.1 = some v ∧ gz P G cn (d + 1) t (pc + 3) L (v.toList ++ rest) q.2.2 F) : gz P G cn (d + 1) t pc L S h F := by
  obtain ⟨n2, q, L8, hrun, hE⟩ := hrun
  obtain ⟨v, hfin, n, r, L9, k, hF⟩ := k q L8 hE
  refine ⟨max n n2 + 1, r, L9, ?_, hF⟩
  rw [go, hlk]
  dsimp only
  rw [if_neg hx, hci]
  dsimp only
  rw [if_neg (by omega), if_neg hT, if_neg hT4, hs]
  dsimp only
  rw [Nat.add_sub_cancel, go_mono _ _ _ _ _ _ _ _ _ (Nat.le_max_right n n2) hrun]
  obtain ⟨a, b, c⟩ := q
  dsimp only at hfin k ⊢
  rw [hfin]
  exact go_mono _ _ _ _ _ _ _ _ _ (Nat.le_max_left n n2) k
theorem gz_post {E : gR → gL → Prop} (k : gz P G cn d t pc L S h E) (hEF : ∀ q L8, E q L8 → F q L8) : gz P G cn d t pc L S h F := by
  obtain ⟨n, r, L9, k, hE⟩ := k
  exact ⟨n, r, L9, k, hEF _ _ hE⟩
end GRS
