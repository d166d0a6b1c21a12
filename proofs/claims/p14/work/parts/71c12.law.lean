/-! ===== stretches of the law (by program) ===== -/
set_option maxRecDepth 20000 in
set_option maxHeartbeats 4000000 in
theorem sg_end (d : Nat) {ty : Nat → Nat} {h : gH} {Ln i : Int} {sc : Nat → Int} {x m o : Nat} (hJ : gJ rT 1027 ty h) (uq : gUq ty) (hyst : gSta ty h) (scr : gScr ty Ln sc h) (tx : ty x = 50) (tm : ty m = 1) (to : ty o = 90) (ri : 0 ≤ i ∧ i ≤ 2048) : gz gPP gGG gcn (d + 0) (gtLlaw []) 572 [some (.ref 2), some (.ref x), some (.ref m), some (.ref o), some (.int (zi i)), none, none, none] [] h (fun q L9 => q.2.2 = h ∧ q.1 = 573 ∧ q.2.1 = [.int (zi 1)]) := by
  have hln := scr.2.2.2.2.1
  have hS : gSs rT 1027 ty [] h h := gSs.rf hJ
  refine gz_s 1 (pc' := 573) (L' := [some (.ref 2), some (.ref x), some (.ref m), some (.ref o), some (.int (zi i)), none, none, none]) (S' := [.int (zi 1)]) rfl ?_
  exact gz_end (I := .ireturn) (len := 1) rfl (Or.inl rfl) ⟨rfl, rfl, rfl⟩
