/-! ===== the reference's encode ===== -/
theorem gTs.fn {ty : Nat → Nat} {n : Int} {h : gH} {f t : Nat → Int} {a b : Nat} (s : gTs ty n h) (rf : gRn 10 ty 27 f h) (rt : gRn 10 ty 28 t h) (c1 : ty a = 27) (c2 : ty b = 28) (hn : n ≤ 10) : (∀ j, j < n.toNat → f j ≤ t j) ∧ gTl f t n ≤ 256 := by
  obtain ⟨f2, t2, c, r1, r2, _, le, sm⟩ := s
  have ef : ∀ j, j < 10 → f j = f2 j := fun j hj => (rf.2 a c1 j hj).symm.trans (r1.2 a c1 j (by omega))
  have et : ∀ j, j < 10 → t j = t2 j := fun j hj => (rt.2 b c2 j hj).symm.trans (r2.2 b c2 j (by omega))
  refine ⟨fun j hj => ?_, ?_⟩
  · rw [ef j (by omega), et j (by omega)]
    exact le j hj
  · have e : gTl f t n = gTl f2 t2 n := gsf_cg (fun j hj => by rw [ef j (by omega), et j (by omega)])
    have := gsf_nn (f := fun j => gcr (c j)) (fun j => gcr_nn) 64
    omega
theorem gOz.Rn {N : Nat} {ty : Nat → Nat} {q : Nat} {v k : Int} {h : gH} (hN : N ≤ k.toNat ∧ N ≤ 514) (s : gOz ty q v k h) : gRn N ty q (fun _ => v) h := by
  obtain ⟨f, x1, x2⟩ := s
  exact ⟨x1.1, fun c hc i hi => (x1.2 c hc i (Nat.lt_of_lt_of_le hi hN.2)).trans (x2 i (Nat.lt_of_lt_of_le hi hN.1))⟩
theorem gSO.rd {ty : Nat → Nat} {c : Nat} {s : gWt} {h : gH} {i z : Int} (p : gSO ty s h) (ht : ty c = 32) (e : h.2.2.2.2 c i.toNat = .int (zi z)) (h0 : 0 ≤ i) (h1 : i < s.1) (r : -2147483648 ≤ z ∧ z < 2147483648) : z = s.2.2.2 i.toNat := by
  obtain ⟨b, e2⟩ := p.2.2 i.toNat (by omega)
  exact (zi_inj r (by omega)).mp (Value.int.inj (e.symm.trans (e2 c ht)))
