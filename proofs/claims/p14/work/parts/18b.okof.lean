/-! ===== a method's tables, put together ===== -/
theorem gok_of {P : Nat → Option gMt} {cl : List vw_C} {G : gG} {X : gX} {t : gMt} {own : String} {F : List (Nat × Nat × Nat)} {I : List (Nat × Int32)} {J : List (Nat × Int64)} {S : List (Nat × Nat)} {C : List (Nat × (Nat ⊕ Nat))} {M : List (Nat × Nat × Nat)}
    (hN : (gmN t).cls = own) (hK : gmK t = (gas F, gas I, gas J, gas S, gas C)) (hM : gmT t = gas M)
    (f1 : gFl cl gGT own (gas F)) (f2 : ∀ idx v, gas I idx = some v → Cond.constant own idx v ∈ gGT) (f3 : ∀ idx v, gas J idx = some v → Cond.constantLong own idx v ∈ gGT)
    (f4 : ∀ idx a, gas S idx = some a → ∃ C nm d, (a, C, nm, d) ∈ X.1 ∧ (Cond.fieldLink own idx C nm d ∈ gGT ∨ ∃ host, (own, idx, C, nm, d, host) ∈ X.2.1))
    (f5 : (∀ idx ci, gas C idx = some (.inl ci) → ∃ q : vw_C, cl[ci]? = some q ∧ Cond.classLink own idx q.1 ∈ gGT ∧ Cond.instantiable q.1 q.2.2 ∈ gGT ∧ Cond.initialized q.1 ∈ gGT) ∧
      (∀ idx u, gas C (idx + 100000) = some (.inr u) → ∃ C, G.1[u]? = some (.object C) ∧ Cond.classLink own idx C ∈ gGT ∧ C ∈ X.2.2.2))
    (ini : ∀ ci, gmI t = some ci → (gmN t).name = "<init>" ∧ ∃ q : vw_C, cl[ci]? = some q ∧ ∀ k, k < q.2.2 → (q.2.1 k).1 = own)
    (hd : gckD (gmB t) (gmC t) = true) (hc : Cond.code (gmN t) (gmB t) (gmL t) (gmR t) ∈ gGT) (hp : plainFor (gmN t) = true) (hi : Cond.initialized own ∈ gGT)
    (hm : own ≠ "java/lang/invoke/MethodHandle" ∧ own ≠ "java/lang/invoke/VarHandle" ∧ (parseMethodDescriptor (gmN t).desc).map (fun d => d.parameters.length) = some (gmA t)) (hl : gmL t ≤ 40)
    (m1 : ∀ idx k y t', gas M idx = some (k, y) → k < 3 → P y = some t' → (Cond.methodLink own idx (gmN t') ∈ gGT ∨ ∃ host, (own, idx, gmN t', host) ∈ X.2.2.1) ∧ (k = 0 → Cond.static (gmN t') ∈ gGT) ∧
      (k = 1 → Cond.instanceMethod (gmN t') ∈ gGT ∧ Cond.selects (gmN t').cls (gmN t') (gmN t') ∈ gGT ∧ ∃ q : vw_C, cl[gmO t']? = some q ∧ q.1 = (gmN t').cls) ∧ (k = 2 → (gmN t').name = "<init>" ∧ Cond.instanceMethod (gmN t') ∈ gGT ∧ gmR t' = none))
    (m2 : ∀ idx, gas M idx = some (3, 0) → Cond.methodLink own idx arraycopyName ∈ gGT ∧ Cond.native arraycopyName ∈ gGT ∧ Cond.static arraycopyName ∈ gGT ∧ Cond.initialized "java/lang/System" ∈ gGT)
    (m3 : ∀ idx, gas M idx = some (4, 0) → Cond.methodLink own idx objectInit ∈ gGT ∧ Cond.instanceMethod objectInit ∈ gGT ∧ Cond.code objectInit ⟨#[0xb1]⟩ 1 none ∈ gGT) : gOk P cl G X gGT t := by
  unfold gOk gOk0
  rw [hK, hM, hN]
  exact ⟨⟨⟨f1, f2, f3, f4, f5.1, f5.2⟩, ini, ⟨gckD_ok hd, hp, hi, hm, hl⟩, m1, m2, m3⟩, hc⟩
theorem gok0_of {P : Nat → Option gMt} {cl : List vw_C} {G : gG} {X : gX} {t : gMt} {own : String} {F : List (Nat × Nat × Nat)} {I : List (Nat × Int32)} {J : List (Nat × Int64)} {S : List (Nat × Nat)} {C : List (Nat × (Nat ⊕ Nat))} {M : List (Nat × Nat × Nat)}
    (hN : (gmN t).cls = own) (hK : gmK t = (gas F, gas I, gas J, gas S, gas C)) (hM : gmT t = gas M)
    (f1 : gFl cl gGT own (gas F)) (f2 : ∀ idx v, gas I idx = some v → Cond.constant own idx v ∈ gGT) (f3 : ∀ idx v, gas J idx = some v → Cond.constantLong own idx v ∈ gGT)
    (f4 : ∀ idx a, gas S idx = some a → ∃ C nm d, (a, C, nm, d) ∈ X.1 ∧ (Cond.fieldLink own idx C nm d ∈ gGT ∨ ∃ host, (own, idx, C, nm, d, host) ∈ X.2.1))
    (f5 : (∀ idx ci, gas C idx = some (.inl ci) → ∃ q : vw_C, cl[ci]? = some q ∧ Cond.classLink own idx q.1 ∈ gGT ∧ Cond.instantiable q.1 q.2.2 ∈ gGT ∧ Cond.initialized q.1 ∈ gGT) ∧
      (∀ idx u, gas C (idx + 100000) = some (.inr u) → ∃ C, G.1[u]? = some (.object C) ∧ Cond.classLink own idx C ∈ gGT ∧ C ∈ X.2.2.2))
    (ini : ∀ ci, gmI t = some ci → (gmN t).name = "<init>" ∧ ∃ q : vw_C, cl[ci]? = some q ∧ ∀ k, k < q.2.2 → (q.2.1 k).1 = own)
    (hd : gckD (gmB t) (gmC t) = true) (hp : plainFor (gmN t) = true) (hi : Cond.initialized own ∈ gGT)
    (hm : own ≠ "java/lang/invoke/MethodHandle" ∧ own ≠ "java/lang/invoke/VarHandle" ∧ (parseMethodDescriptor (gmN t).desc).map (fun d => d.parameters.length) = some (gmA t)) (hl : gmL t ≤ 40)
    (m1 : ∀ idx k y t', gas M idx = some (k, y) → k < 3 → P y = some t' → (Cond.methodLink own idx (gmN t') ∈ gGT ∨ ∃ host, (own, idx, gmN t', host) ∈ X.2.2.1) ∧ (k = 0 → Cond.static (gmN t') ∈ gGT) ∧
      (k = 1 → Cond.instanceMethod (gmN t') ∈ gGT ∧ Cond.selects (gmN t').cls (gmN t') (gmN t') ∈ gGT ∧ ∃ q : vw_C, cl[gmO t']? = some q ∧ q.1 = (gmN t').cls) ∧ (k = 2 → (gmN t').name = "<init>" ∧ Cond.instanceMethod (gmN t') ∈ gGT ∧ gmR t' = none))
    (m2 : ∀ idx, gas M idx = some (3, 0) → Cond.methodLink own idx arraycopyName ∈ gGT ∧ Cond.native arraycopyName ∈ gGT ∧ Cond.static arraycopyName ∈ gGT ∧ Cond.initialized "java/lang/System" ∈ gGT)
    (m3 : ∀ idx, gas M idx = some (4, 0) → Cond.methodLink own idx objectInit ∈ gGT ∧ Cond.instanceMethod objectInit ∈ gGT ∧ Cond.code objectInit ⟨#[0xb1]⟩ 1 none ∈ gGT) : gOk0 P cl G X gGT t := by
  unfold gOk0
  rw [hK, hM, hN]
  exact ⟨⟨f1, f2, f3, f4, f5.1, f5.2⟩, ini, ⟨gckD_ok hd, hp, hi, hm, hl⟩, m1, m2, m3⟩
