/-! ===== slots' kinds are kinds (by program) ===== -/
theorem rtc1 (k : Nat) : ((rg1.2.2.2 k).1 = 2 ∨ (rg1.2.2.2 k).1 = 3) → (rT (rg1.2.2.2 k).2.1.toNat).isSome = true := by
  show ((rs1 k).1 = 2 ∨ (rs1 k).1 = 3) → (rT (rs1 k).2.1.toNat).isSome = true
  unfold rs1
  split <;> first | exact fun _ => rfl | exact fun e => e.elim (fun e => nomatch e) (fun e => nomatch e)
theorem rtc2 (k : Nat) : ((rg2.2.2.2 k).1 = 2 ∨ (rg2.2.2.2 k).1 = 3) → (rT (rg2.2.2.2 k).2.1.toNat).isSome = true := fun e => absurd (show ((0 : Nat) = 2 ∨ (0 : Nat) = 3) from e) (by decide)
theorem rtc3 (k : Nat) : ((rg3.2.2.2 k).1 = 2 ∨ (rg3.2.2.2 k).1 = 3) → (rT (rg3.2.2.2 k).2.1.toNat).isSome = true := fun e => absurd (show ((0 : Nat) = 2 ∨ (0 : Nat) = 3) from e) (by decide)
theorem rtc4 (k : Nat) : ((rg4.2.2.2 k).1 = 2 ∨ (rg4.2.2.2 k).1 = 3) → (rT (rg4.2.2.2 k).2.1.toNat).isSome = true := fun e => absurd (show ((0 : Nat) = 2 ∨ (0 : Nat) = 3) from e) (by decide)
theorem rtc5 (k : Nat) : ((rg5.2.2.2 k).1 = 2 ∨ (rg5.2.2.2 k).1 = 3) → (rT (rg5.2.2.2 k).2.1.toNat).isSome = true := fun e => absurd (show ((0 : Nat) = 2 ∨ (0 : Nat) = 3) from e) (by decide)
theorem rtc6 (k : Nat) : ((rg6.2.2.2 k).1 = 2 ∨ (rg6.2.2.2 k).1 = 3) → (rT (rg6.2.2.2 k).2.1.toNat).isSome = true := fun e => absurd (show ((0 : Nat) = 2 ∨ (0 : Nat) = 3) from e) (by decide)
theorem rtc7 (k : Nat) : ((rg7.2.2.2 k).1 = 2 ∨ (rg7.2.2.2 k).1 = 3) → (rT (rg7.2.2.2 k).2.1.toNat).isSome = true := fun e => absurd (show ((0 : Nat) = 2 ∨ (0 : Nat) = 3) from e) (by decide)
theorem rtc8 (k : Nat) : ((rg8.2.2.2 k).1 = 2 ∨ (rg8.2.2.2 k).1 = 3) → (rT (rg8.2.2.2 k).2.1.toNat).isSome = true := fun e => absurd (show ((0 : Nat) = 2 ∨ (0 : Nat) = 3) from e) (by decide)
theorem rtc9 (k : Nat) : ((rg9.2.2.2 k).1 = 2 ∨ (rg9.2.2.2 k).1 = 3) → (rT (rg9.2.2.2 k).2.1.toNat).isSome = true := fun e => absurd (show ((0 : Nat) = 2 ∨ (0 : Nat) = 3) from e) (by decide)
theorem rtc10 (k : Nat) : ((rg10.2.2.2 k).1 = 2 ∨ (rg10.2.2.2 k).1 = 3) → (rT (rg10.2.2.2 k).2.1.toNat).isSome = true := fun e => absurd (show ((0 : Nat) = 2 ∨ (0 : Nat) = 3) from e) (by decide)
theorem rtc11 (k : Nat) : ((rg11.2.2.2 k).1 = 2 ∨ (rg11.2.2.2 k).1 = 3) → (rT (rg11.2.2.2 k).2.1.toNat).isSome = true := fun e => absurd (show ((0 : Nat) = 2 ∨ (0 : Nat) = 3) from e) (by decide)
theorem rtc12 (k : Nat) : ((rg12.2.2.2 k).1 = 2 ∨ (rg12.2.2.2 k).1 = 3) → (rT (rg12.2.2.2 k).2.1.toNat).isSome = true := fun e => absurd (show ((0 : Nat) = 2 ∨ (0 : Nat) = 3) from e) (by decide)
theorem rtc13 (k : Nat) : ((rg13.2.2.2 k).1 = 2 ∨ (rg13.2.2.2 k).1 = 3) → (rT (rg13.2.2.2 k).2.1.toNat).isSome = true := fun e => absurd (show ((0 : Nat) = 2 ∨ (0 : Nat) = 3) from e) (by decide)
theorem rtc14 (k : Nat) : ((rg14.2.2.2 k).1 = 2 ∨ (rg14.2.2.2 k).1 = 3) → (rT (rg14.2.2.2 k).2.1.toNat).isSome = true := fun e => absurd (show ((0 : Nat) = 2 ∨ (0 : Nat) = 3) from e) (by decide)
theorem rtc15 (k : Nat) : ((rg15.2.2.2 k).1 = 2 ∨ (rg15.2.2.2 k).1 = 3) → (rT (rg15.2.2.2 k).2.1.toNat).isSome = true := fun e => absurd (show ((0 : Nat) = 2 ∨ (0 : Nat) = 3) from e) (by decide)
theorem rtc16 (k : Nat) : ((rg16.2.2.2 k).1 = 2 ∨ (rg16.2.2.2 k).1 = 3) → (rT (rg16.2.2.2 k).2.1.toNat).isSome = true := fun e => absurd (show ((0 : Nat) = 2 ∨ (0 : Nat) = 3) from e) (by decide)
theorem rtc17 (k : Nat) : ((rg17.2.2.2 k).1 = 2 ∨ (rg17.2.2.2 k).1 = 3) → (rT (rg17.2.2.2 k).2.1.toNat).isSome = true := fun e => absurd (show ((0 : Nat) = 2 ∨ (0 : Nat) = 3) from e) (by decide)
theorem rtc18 (k : Nat) : ((rg18.2.2.2 k).1 = 2 ∨ (rg18.2.2.2 k).1 = 3) → (rT (rg18.2.2.2 k).2.1.toNat).isSome = true := fun e => absurd (show ((0 : Nat) = 2 ∨ (0 : Nat) = 3) from e) (by decide)
theorem rtc19 (k : Nat) : ((rg19.2.2.2 k).1 = 2 ∨ (rg19.2.2.2 k).1 = 3) → (rT (rg19.2.2.2 k).2.1.toNat).isSome = true := fun e => absurd (show ((0 : Nat) = 2 ∨ (0 : Nat) = 3) from e) (by decide)
theorem rtc20 (k : Nat) : ((rg20.2.2.2 k).1 = 2 ∨ (rg20.2.2.2 k).1 = 3) → (rT (rg20.2.2.2 k).2.1.toNat).isSome = true := fun e => absurd (show ((0 : Nat) = 2 ∨ (0 : Nat) = 3) from e) (by decide)
theorem rtc21 (k : Nat) : ((rg21.2.2.2 k).1 = 2 ∨ (rg21.2.2.2 k).1 = 3) → (rT (rg21.2.2.2 k).2.1.toNat).isSome = true := fun e => absurd (show ((0 : Nat) = 2 ∨ (0 : Nat) = 3) from e) (by decide)
theorem rtc22 (k : Nat) : ((rg22.2.2.2 k).1 = 2 ∨ (rg22.2.2.2 k).1 = 3) → (rT (rg22.2.2.2 k).2.1.toNat).isSome = true := fun e => absurd (show ((0 : Nat) = 2 ∨ (0 : Nat) = 3) from e) (by decide)
theorem rtc23 (k : Nat) : ((rg23.2.2.2 k).1 = 2 ∨ (rg23.2.2.2 k).1 = 3) → (rT (rg23.2.2.2 k).2.1.toNat).isSome = true := fun e => absurd (show ((0 : Nat) = 2 ∨ (0 : Nat) = 3) from e) (by decide)
theorem rtc24 (k : Nat) : ((rg24.2.2.2 k).1 = 2 ∨ (rg24.2.2.2 k).1 = 3) → (rT (rg24.2.2.2 k).2.1.toNat).isSome = true := fun e => absurd (show ((0 : Nat) = 2 ∨ (0 : Nat) = 3) from e) (by decide)
theorem rtc25 (k : Nat) : ((rg25.2.2.2 k).1 = 2 ∨ (rg25.2.2.2 k).1 = 3) → (rT (rg25.2.2.2 k).2.1.toNat).isSome = true := fun e => absurd (show ((0 : Nat) = 2 ∨ (0 : Nat) = 3) from e) (by decide)
theorem rtc26 (k : Nat) : ((rg26.2.2.2 k).1 = 2 ∨ (rg26.2.2.2 k).1 = 3) → (rT (rg26.2.2.2 k).2.1.toNat).isSome = true := fun e => absurd (show ((0 : Nat) = 2 ∨ (0 : Nat) = 3) from e) (by decide)
theorem rtc27 (k : Nat) : ((rg27.2.2.2 k).1 = 2 ∨ (rg27.2.2.2 k).1 = 3) → (rT (rg27.2.2.2 k).2.1.toNat).isSome = true := fun e => absurd (show ((0 : Nat) = 2 ∨ (0 : Nat) = 3) from e) (by decide)
theorem rtc28 (k : Nat) : ((rg28.2.2.2 k).1 = 2 ∨ (rg28.2.2.2 k).1 = 3) → (rT (rg28.2.2.2 k).2.1.toNat).isSome = true := fun e => absurd (show ((0 : Nat) = 2 ∨ (0 : Nat) = 3) from e) (by decide)
theorem rtc29 (k : Nat) : ((rg29.2.2.2 k).1 = 2 ∨ (rg29.2.2.2 k).1 = 3) → (rT (rg29.2.2.2 k).2.1.toNat).isSome = true := fun e => absurd (show ((0 : Nat) = 2 ∨ (0 : Nat) = 3) from e) (by decide)
theorem rtc30 (k : Nat) : ((rg30.2.2.2 k).1 = 2 ∨ (rg30.2.2.2 k).1 = 3) → (rT (rg30.2.2.2 k).2.1.toNat).isSome = true := fun e => absurd (show ((0 : Nat) = 2 ∨ (0 : Nat) = 3) from e) (by decide)
theorem rtc31 (k : Nat) : ((rg31.2.2.2 k).1 = 2 ∨ (rg31.2.2.2 k).1 = 3) → (rT (rg31.2.2.2 k).2.1.toNat).isSome = true := fun e => absurd (show ((0 : Nat) = 2 ∨ (0 : Nat) = 3) from e) (by decide)
theorem rtc32 (k : Nat) : ((rg32.2.2.2 k).1 = 2 ∨ (rg32.2.2.2 k).1 = 3) → (rT (rg32.2.2.2 k).2.1.toNat).isSome = true := fun e => absurd (show ((0 : Nat) = 2 ∨ (0 : Nat) = 3) from e) (by decide)
theorem rtc33 (k : Nat) : ((rg33.2.2.2 k).1 = 2 ∨ (rg33.2.2.2 k).1 = 3) → (rT (rg33.2.2.2 k).2.1.toNat).isSome = true := fun e => absurd (show ((0 : Nat) = 2 ∨ (0 : Nat) = 3) from e) (by decide)
theorem rtc34 (k : Nat) : ((rg34.2.2.2 k).1 = 2 ∨ (rg34.2.2.2 k).1 = 3) → (rT (rg34.2.2.2 k).2.1.toNat).isSome = true := fun e => absurd (show ((0 : Nat) = 2 ∨ (0 : Nat) = 3) from e) (by decide)
theorem rtc35 (k : Nat) : ((rg35.2.2.2 k).1 = 2 ∨ (rg35.2.2.2 k).1 = 3) → (rT (rg35.2.2.2 k).2.1.toNat).isSome = true := fun e => absurd (show ((0 : Nat) = 2 ∨ (0 : Nat) = 3) from e) (by decide)
theorem rtc36 (k : Nat) : ((rg36.2.2.2 k).1 = 2 ∨ (rg36.2.2.2 k).1 = 3) → (rT (rg36.2.2.2 k).2.1.toNat).isSome = true := fun e => absurd (show ((0 : Nat) = 2 ∨ (0 : Nat) = 3) from e) (by decide)
theorem rtc37 (k : Nat) : ((rg37.2.2.2 k).1 = 2 ∨ (rg37.2.2.2 k).1 = 3) → (rT (rg37.2.2.2 k).2.1.toNat).isSome = true := fun e => absurd (show ((0 : Nat) = 2 ∨ (0 : Nat) = 3) from e) (by decide)
theorem rtc38 (k : Nat) : ((rg38.2.2.2 k).1 = 2 ∨ (rg38.2.2.2 k).1 = 3) → (rT (rg38.2.2.2 k).2.1.toNat).isSome = true := fun e => absurd (show ((0 : Nat) = 2 ∨ (0 : Nat) = 3) from e) (by decide)
theorem rtc39 (k : Nat) : ((rg39.2.2.2 k).1 = 2 ∨ (rg39.2.2.2 k).1 = 3) → (rT (rg39.2.2.2 k).2.1.toNat).isSome = true := fun e => absurd (show ((0 : Nat) = 2 ∨ (0 : Nat) = 3) from e) (by decide)
theorem rtc40 (k : Nat) : ((rg40.2.2.2 k).1 = 2 ∨ (rg40.2.2.2 k).1 = 3) → (rT (rg40.2.2.2 k).2.1.toNat).isSome = true := fun e => absurd (show ((0 : Nat) = 2 ∨ (0 : Nat) = 3) from e) (by decide)
theorem rtc41 (k : Nat) : ((rg41.2.2.2 k).1 = 2 ∨ (rg41.2.2.2 k).1 = 3) → (rT (rg41.2.2.2 k).2.1.toNat).isSome = true := fun e => absurd (show ((0 : Nat) = 2 ∨ (0 : Nat) = 3) from e) (by decide)
theorem rtc42 (k : Nat) : ((rg42.2.2.2 k).1 = 2 ∨ (rg42.2.2.2 k).1 = 3) → (rT (rg42.2.2.2 k).2.1.toNat).isSome = true := fun e => absurd (show ((0 : Nat) = 2 ∨ (0 : Nat) = 3) from e) (by decide)
theorem rtc50 (k : Nat) : ((rg50.2.2.2 k).1 = 2 ∨ (rg50.2.2.2 k).1 = 3) → (rT (rg50.2.2.2 k).2.1.toNat).isSome = true := by
  show ((rs50 k).1 = 2 ∨ (rs50 k).1 = 3) → (rT (rs50 k).2.1.toNat).isSome = true
  unfold rs50
  split <;> first | exact fun _ => rfl | exact fun e => e.elim (fun e => nomatch e) (fun e => nomatch e)
theorem rtc51 (k : Nat) : ((rg51.2.2.2 k).1 = 2 ∨ (rg51.2.2.2 k).1 = 3) → (rT (rg51.2.2.2 k).2.1.toNat).isSome = true := by
  show ((rs51 k).1 = 2 ∨ (rs51 k).1 = 3) → (rT (rs51 k).2.1.toNat).isSome = true
  unfold rs51
  split <;> first | exact fun _ => rfl | exact fun e => e.elim (fun e => nomatch e) (fun e => nomatch e)
theorem rtc52 (k : Nat) : ((rg52.2.2.2 k).1 = 2 ∨ (rg52.2.2.2 k).1 = 3) → (rT (rg52.2.2.2 k).2.1.toNat).isSome = true := fun e => absurd (show ((0 : Nat) = 2 ∨ (0 : Nat) = 3) from e) (by decide)
theorem rtc53 (k : Nat) : ((rg53.2.2.2 k).1 = 2 ∨ (rg53.2.2.2 k).1 = 3) → (rT (rg53.2.2.2 k).2.1.toNat).isSome = true := fun e => absurd (show ((0 : Nat) = 2 ∨ (0 : Nat) = 3) from e) (by decide)
theorem rtc54 (k : Nat) : ((rg54.2.2.2 k).1 = 2 ∨ (rg54.2.2.2 k).1 = 3) → (rT (rg54.2.2.2 k).2.1.toNat).isSome = true := by
  show ((rs54 k).1 = 2 ∨ (rs54 k).1 = 3) → (rT (rs54 k).2.1.toNat).isSome = true
  unfold rs54
  split <;> first | exact fun _ => rfl | exact fun e => e.elim (fun e => nomatch e) (fun e => nomatch e)
theorem rtc55 (k : Nat) : ((rg55.2.2.2 k).1 = 2 ∨ (rg55.2.2.2 k).1 = 3) → (rT (rg55.2.2.2 k).2.1.toNat).isSome = true := by
  show ((rs55 k).1 = 2 ∨ (rs55 k).1 = 3) → (rT (rs55 k).2.1.toNat).isSome = true
  unfold rs55
  split <;> first | exact fun _ => rfl | exact fun e => e.elim (fun e => nomatch e) (fun e => nomatch e)
theorem rtc56 (k : Nat) : ((rg56.2.2.2 k).1 = 2 ∨ (rg56.2.2.2 k).1 = 3) → (rT (rg56.2.2.2 k).2.1.toNat).isSome = true := by
  show ((rs56 k).1 = 2 ∨ (rs56 k).1 = 3) → (rT (rs56 k).2.1.toNat).isSome = true
  unfold rs56
  split <;> first | exact fun _ => rfl | exact fun e => e.elim (fun e => nomatch e) (fun e => nomatch e)
theorem rtc57 (k : Nat) (hk : k < 3) : ((rg57.2.2.2 k).1 = 2 ∨ (rg57.2.2.2 k).1 = 3) → (rT (rg57.2.2.2 k).2.1.toNat).isSome = true := by
  match k, hk with
  | 0, _ => exact fun _ => rfl
  | 1, _ => exact fun _ => rfl
  | 2, _ => exact fun _ => rfl
theorem rtc58 (k : Nat) : ((rg58.2.2.2 k).1 = 2 ∨ (rg58.2.2.2 k).1 = 3) → (rT (rg58.2.2.2 k).2.1.toNat).isSome = true := fun e => absurd (show ((0 : Nat) = 2 ∨ (0 : Nat) = 3) from e) (by decide)
theorem rtc59 (k : Nat) : ((rg59.2.2.2 k).1 = 2 ∨ (rg59.2.2.2 k).1 = 3) → (rT (rg59.2.2.2 k).2.1.toNat).isSome = true := fun e => absurd (show ((0 : Nat) = 2 ∨ (0 : Nat) = 3) from e) (by decide)
theorem rtc60 (k : Nat) : ((rg60.2.2.2 k).1 = 2 ∨ (rg60.2.2.2 k).1 = 3) → (rT (rg60.2.2.2 k).2.1.toNat).isSome = true := fun e => absurd (show ((0 : Nat) = 2 ∨ (0 : Nat) = 3) from e) (by decide)
theorem rtc61 (k : Nat) : ((rg61.2.2.2 k).1 = 2 ∨ (rg61.2.2.2 k).1 = 3) → (rT (rg61.2.2.2 k).2.1.toNat).isSome = true := fun e => absurd (show ((0 : Nat) = 2 ∨ (0 : Nat) = 3) from e) (by decide)
theorem rtc62 (k : Nat) : ((rg62.2.2.2 k).1 = 2 ∨ (rg62.2.2.2 k).1 = 3) → (rT (rg62.2.2.2 k).2.1.toNat).isSome = true := fun e => absurd (show ((0 : Nat) = 2 ∨ (0 : Nat) = 3) from e) (by decide)
theorem rtc63 (k : Nat) : ((rg63.2.2.2 k).1 = 2 ∨ (rg63.2.2.2 k).1 = 3) → (rT (rg63.2.2.2 k).2.1.toNat).isSome = true := fun e => absurd (show ((0 : Nat) = 2 ∨ (0 : Nat) = 3) from e) (by decide)
theorem rtc64 (k : Nat) : ((rg64.2.2.2 k).1 = 2 ∨ (rg64.2.2.2 k).1 = 3) → (rT (rg64.2.2.2 k).2.1.toNat).isSome = true := fun e => absurd (show ((0 : Nat) = 2 ∨ (0 : Nat) = 3) from e) (by decide)
theorem rtc65 (k : Nat) : ((rg65.2.2.2 k).1 = 2 ∨ (rg65.2.2.2 k).1 = 3) → (rT (rg65.2.2.2 k).2.1.toNat).isSome = true := by
  show ((rs65 k).1 = 2 ∨ (rs65 k).1 = 3) → (rT (rs65 k).2.1.toNat).isSome = true
  unfold rs65
  split <;> first | exact fun _ => rfl | exact fun e => e.elim (fun e => nomatch e) (fun e => nomatch e)
theorem rtc66 (k : Nat) : ((rg66.2.2.2 k).1 = 2 ∨ (rg66.2.2.2 k).1 = 3) → (rT (rg66.2.2.2 k).2.1.toNat).isSome = true := by
  show ((rs66 k).1 = 2 ∨ (rs66 k).1 = 3) → (rT (rs66 k).2.1.toNat).isSome = true
  unfold rs66
  split <;> first | exact fun _ => rfl | exact fun e => e.elim (fun e => nomatch e) (fun e => nomatch e)
theorem rtc67 (k : Nat) : ((rg67.2.2.2 k).1 = 2 ∨ (rg67.2.2.2 k).1 = 3) → (rT (rg67.2.2.2 k).2.1.toNat).isSome = true := by
  show ((rs67 k).1 = 2 ∨ (rs67 k).1 = 3) → (rT (rs67 k).2.1.toNat).isSome = true
  unfold rs67
  split <;> first | exact fun _ => rfl | exact fun e => e.elim (fun e => nomatch e) (fun e => nomatch e)
theorem rtc68 (k : Nat) : ((rg68.2.2.2 k).1 = 2 ∨ (rg68.2.2.2 k).1 = 3) → (rT (rg68.2.2.2 k).2.1.toNat).isSome = true := fun _ => rfl
theorem rtc69 (k : Nat) : ((rg69.2.2.2 k).1 = 2 ∨ (rg69.2.2.2 k).1 = 3) → (rT (rg69.2.2.2 k).2.1.toNat).isSome = true := fun e => absurd (show ((0 : Nat) = 2 ∨ (0 : Nat) = 3) from e) (by decide)
theorem rtc70 (k : Nat) : ((rg70.2.2.2 k).1 = 2 ∨ (rg70.2.2.2 k).1 = 3) → (rT (rg70.2.2.2 k).2.1.toNat).isSome = true := fun e => absurd (show ((0 : Nat) = 2 ∨ (0 : Nat) = 3) from e) (by decide)
theorem rtc71 (k : Nat) : ((rg71.2.2.2 k).1 = 2 ∨ (rg71.2.2.2 k).1 = 3) → (rT (rg71.2.2.2 k).2.1.toNat).isSome = true := by
  show ((rs71 k).1 = 2 ∨ (rs71 k).1 = 3) → (rT (rs71 k).2.1.toNat).isSome = true
  unfold rs71
  split <;> first | exact fun _ => rfl | exact fun e => e.elim (fun e => nomatch e) (fun e => nomatch e)
theorem rtc72 (k : Nat) : ((rg72.2.2.2 k).1 = 2 ∨ (rg72.2.2.2 k).1 = 3) → (rT (rg72.2.2.2 k).2.1.toNat).isSome = true := fun e => absurd (show ((0 : Nat) = 2 ∨ (0 : Nat) = 3) from e) (by decide)
theorem rtc73 (k : Nat) : ((rg73.2.2.2 k).1 = 2 ∨ (rg73.2.2.2 k).1 = 3) → (rT (rg73.2.2.2 k).2.1.toNat).isSome = true := fun e => absurd (show ((0 : Nat) = 2 ∨ (0 : Nat) = 3) from e) (by decide)
theorem rtc74 (k : Nat) : ((rg74.2.2.2 k).1 = 2 ∨ (rg74.2.2.2 k).1 = 3) → (rT (rg74.2.2.2 k).2.1.toNat).isSome = true := fun e => absurd (show ((1 : Nat) = 2 ∨ (1 : Nat) = 3) from e) (by decide)
theorem rtc75 (k : Nat) (hk : k < 2) : ((rg75.2.2.2 k).1 = 2 ∨ (rg75.2.2.2 k).1 = 3) → (rT (rg75.2.2.2 k).2.1.toNat).isSome = true := by
  match k, hk with
  | 0, _ => exact fun _ => rfl
  | 1, _ => exact fun _ => rfl
theorem rtc82 (k : Nat) : ((rg82.2.2.2 k).1 = 2 ∨ (rg82.2.2.2 k).1 = 3) → (rT (rg82.2.2.2 k).2.1.toNat).isSome = true := by
  show ((rs82 k).1 = 2 ∨ (rs82 k).1 = 3) → (rT (rs82 k).2.1.toNat).isSome = true
  unfold rs82
  split <;> first | exact fun _ => rfl | exact fun e => e.elim (fun e => nomatch e) (fun e => nomatch e)
theorem rtc83 (k : Nat) : ((rg83.2.2.2 k).1 = 2 ∨ (rg83.2.2.2 k).1 = 3) → (rT (rg83.2.2.2 k).2.1.toNat).isSome = true := by
  show ((rs83 k).1 = 2 ∨ (rs83 k).1 = 3) → (rT (rs83 k).2.1.toNat).isSome = true
  unfold rs83
  split <;> first | exact fun _ => rfl | exact fun e => e.elim (fun e => nomatch e) (fun e => nomatch e)
theorem rtc84 (k : Nat) : ((rg84.2.2.2 k).1 = 2 ∨ (rg84.2.2.2 k).1 = 3) → (rT (rg84.2.2.2 k).2.1.toNat).isSome = true := by
  show ((rs84 k).1 = 2 ∨ (rs84 k).1 = 3) → (rT (rs84 k).2.1.toNat).isSome = true
  unfold rs84
  split <;> first | exact fun _ => rfl | exact fun e => e.elim (fun e => nomatch e) (fun e => nomatch e)
theorem rtc90 (k : Nat) : ((rg90.2.2.2 k).1 = 2 ∨ (rg90.2.2.2 k).1 = 3) → (rT (rg90.2.2.2 k).2.1.toNat).isSome = true := fun e => absurd (show ((1 : Nat) = 2 ∨ (1 : Nat) = 3) from e) (by decide)
theorem rtc101 (k : Nat) : ((rg101.2.2.2 k).1 = 2 ∨ (rg101.2.2.2 k).1 = 3) → (rT (rg101.2.2.2 k).2.1.toNat).isSome = true := by
  show ((rs101 k).1 = 2 ∨ (rs101 k).1 = 3) → (rT (rs101 k).2.1.toNat).isSome = true
  unfold rs101
  split <;> first | exact fun _ => rfl | exact fun e => e.elim (fun e => nomatch e) (fun e => nomatch e)
theorem rtc102 (k : Nat) : ((rg102.2.2.2 k).1 = 2 ∨ (rg102.2.2.2 k).1 = 3) → (rT (rg102.2.2.2 k).2.1.toNat).isSome = true := fun e => absurd (show ((0 : Nat) = 2 ∨ (0 : Nat) = 3) from e) (by decide)
theorem rtc103 (k : Nat) : ((rg103.2.2.2 k).1 = 2 ∨ (rg103.2.2.2 k).1 = 3) → (rT (rg103.2.2.2 k).2.1.toNat).isSome = true := fun e => absurd (show ((0 : Nat) = 2 ∨ (0 : Nat) = 3) from e) (by decide)
theorem rtc91 (k : Nat) : ((rg91.2.2.2 k).1 = 2 ∨ (rg91.2.2.2 k).1 = 3) → (rT (rg91.2.2.2 k).2.1.toNat).isSome = true := by
  show ((rs91 k).1 = 2 ∨ (rs91 k).1 = 3) → (rT (rs91 k).2.1.toNat).isSome = true
  unfold rs91
  split <;> first | exact fun _ => rfl | exact fun e => e.elim (fun e => nomatch e) (fun e => nomatch e)
theorem rtc93 (k : Nat) : ((rg93.2.2.2 k).1 = 2 ∨ (rg93.2.2.2 k).1 = 3) → (rT (rg93.2.2.2 k).2.1.toNat).isSome = true := fun e => absurd (show ((0 : Nat) = 2 ∨ (0 : Nat) = 3) from e) (by decide)
theorem rtc94 (k : Nat) : ((rg94.2.2.2 k).1 = 2 ∨ (rg94.2.2.2 k).1 = 3) → (rT (rg94.2.2.2 k).2.1.toNat).isSome = true := fun e => absurd (show ((0 : Nat) = 2 ∨ (0 : Nat) = 3) from e) (by decide)
theorem rtc95 (k : Nat) : ((rg95.2.2.2 k).1 = 2 ∨ (rg95.2.2.2 k).1 = 3) → (rT (rg95.2.2.2 k).2.1.toNat).isSome = true := fun e => absurd (show ((0 : Nat) = 2 ∨ (0 : Nat) = 3) from e) (by decide)
theorem rtc96 (k : Nat) : ((rg96.2.2.2 k).1 = 2 ∨ (rg96.2.2.2 k).1 = 3) → (rT (rg96.2.2.2 k).2.1.toNat).isSome = true := fun e => absurd (show ((0 : Nat) = 2 ∨ (0 : Nat) = 3) from e) (by decide)
theorem rtc97 (k : Nat) : ((rg97.2.2.2 k).1 = 2 ∨ (rg97.2.2.2 k).1 = 3) → (rT (rg97.2.2.2 k).2.1.toNat).isSome = true := fun e => absurd (show ((0 : Nat) = 2 ∨ (0 : Nat) = 3) from e) (by decide)
theorem rtc98 (k : Nat) : ((rg98.2.2.2 k).1 = 2 ∨ (rg98.2.2.2 k).1 = 3) → (rT (rg98.2.2.2 k).2.1.toNat).isSome = true := fun e => absurd (show ((0 : Nat) = 2 ∨ (0 : Nat) = 3) from e) (by decide)
theorem rtc99 (k : Nat) : ((rg99.2.2.2 k).1 = 2 ∨ (rg99.2.2.2 k).1 = 3) → (rT (rg99.2.2.2 k).2.1.toNat).isSome = true := fun e => absurd (show ((0 : Nat) = 2 ∨ (0 : Nat) = 3) from e) (by decide)
theorem rtc92 (k : Nat) : ((rg92.2.2.2 k).1 = 2 ∨ (rg92.2.2.2 k).1 = 3) → (rT (rg92.2.2.2 k).2.1.toNat).isSome = true := by
  show ((rs92 k).1 = 2 ∨ (rs92 k).1 = 3) → (rT (rs92 k).2.1.toNat).isSome = true
  unfold rs92
  split <;> first | exact fun _ => rfl | exact fun e => e.elim (fun e => nomatch e) (fun e => nomatch e)
theorem rtc76 (k : Nat) : ((rg76.2.2.2 k).1 = 2 ∨ (rg76.2.2.2 k).1 = 3) → (rT (rg76.2.2.2 k).2.1.toNat).isSome = true := fun e => absurd (show ((0 : Nat) = 2 ∨ (0 : Nat) = 3) from e) (by decide)
theorem rtc77 (k : Nat) : ((rg77.2.2.2 k).1 = 2 ∨ (rg77.2.2.2 k).1 = 3) → (rT (rg77.2.2.2 k).2.1.toNat).isSome = true := fun e => absurd (show ((0 : Nat) = 2 ∨ (0 : Nat) = 3) from e) (by decide)
theorem rtc78 (k : Nat) : ((rg78.2.2.2 k).1 = 2 ∨ (rg78.2.2.2 k).1 = 3) → (rT (rg78.2.2.2 k).2.1.toNat).isSome = true := fun e => absurd (show ((0 : Nat) = 2 ∨ (0 : Nat) = 3) from e) (by decide)
theorem rtc79 (k : Nat) : ((rg79.2.2.2 k).1 = 2 ∨ (rg79.2.2.2 k).1 = 3) → (rT (rg79.2.2.2 k).2.1.toNat).isSome = true := fun e => absurd (show ((0 : Nat) = 2 ∨ (0 : Nat) = 3) from e) (by decide)
theorem rtc80 (k : Nat) : ((rg80.2.2.2 k).1 = 2 ∨ (rg80.2.2.2 k).1 = 3) → (rT (rg80.2.2.2 k).2.1.toNat).isSome = true := fun e => absurd (show ((0 : Nat) = 2 ∨ (0 : Nat) = 3) from e) (by decide)
theorem rtc81 (k : Nat) : ((rg81.2.2.2 k).1 = 2 ∨ (rg81.2.2.2 k).1 = 3) → (rT (rg81.2.2.2 k).2.1.toNat).isSome = true := fun e => absurd (show ((0 : Nat) = 2 ∨ (0 : Nat) = 3) from e) (by decide)
theorem rtc85 (k : Nat) : ((rg85.2.2.2 k).1 = 2 ∨ (rg85.2.2.2 k).1 = 3) → (rT (rg85.2.2.2 k).2.1.toNat).isSome = true := fun e => absurd (show ((0 : Nat) = 2 ∨ (0 : Nat) = 3) from e) (by decide)
theorem rtc112 (k : Nat) : ((rg112.2.2.2 k).1 = 2 ∨ (rg112.2.2.2 k).1 = 3) → (rT (rg112.2.2.2 k).2.1.toNat).isSome = true := fun e => absurd (show ((0 : Nat) = 2 ∨ (0 : Nat) = 3) from e) (by decide)
theorem rtc113 (k : Nat) : ((rg113.2.2.2 k).1 = 2 ∨ (rg113.2.2.2 k).1 = 3) → (rT (rg113.2.2.2 k).2.1.toNat).isSome = true := fun e => absurd (show ((0 : Nat) = 2 ∨ (0 : Nat) = 3) from e) (by decide)
theorem rtc114 (k : Nat) : ((rg114.2.2.2 k).1 = 2 ∨ (rg114.2.2.2 k).1 = 3) → (rT (rg114.2.2.2 k).2.1.toNat).isSome = true := fun e => absurd (show ((0 : Nat) = 2 ∨ (0 : Nat) = 3) from e) (by decide)
theorem rTc (q : Nat) (r : gRg) (k n : Nat) (hq : rT q = some r) (hk : gIn r n k) (hn : n ≤ r.2.2.1) : ((r.2.2.2 k).1 = 2 ∨ (r.2.2.2 k).1 = 3) → (rT (r.2.2.2 k).2.1.toNat).isSome = true := by
  unfold rT at hq
  split at hq
  · cases hq; exact rtc1 k
  · cases hq; exact rtc2 k
  · cases hq; exact rtc3 k
  · cases hq; exact rtc4 k
  · cases hq; exact rtc5 k
  · cases hq; exact rtc6 k
  · cases hq; exact rtc7 k
  · cases hq; exact rtc8 k
  · cases hq; exact rtc9 k
  · cases hq; exact rtc10 k
  · cases hq; exact rtc11 k
  · cases hq; exact rtc12 k
  · cases hq; exact rtc13 k
  · cases hq; exact rtc14 k
  · cases hq; exact rtc15 k
  · cases hq; exact rtc16 k
  · cases hq; exact rtc17 k
  · cases hq; exact rtc18 k
  · cases hq; exact rtc19 k
  · cases hq; exact rtc20 k
  · cases hq; exact rtc21 k
  · cases hq; exact rtc22 k
  · cases hq; exact rtc23 k
  · cases hq; exact rtc24 k
  · cases hq; exact rtc25 k
  · cases hq; exact rtc26 k
  · cases hq; exact rtc27 k
  · cases hq; exact rtc28 k
  · cases hq; exact rtc29 k
  · cases hq; exact rtc30 k
  · cases hq; exact rtc31 k
  · cases hq; exact rtc32 k
  · cases hq; exact rtc33 k
  · cases hq; exact rtc34 k
  · cases hq; exact rtc35 k
  · cases hq; exact rtc36 k
  · cases hq; exact rtc37 k
  · cases hq; exact rtc38 k
  · cases hq; exact rtc39 k
  · cases hq; exact rtc40 k
  · cases hq; exact rtc41 k
  · cases hq; exact rtc42 k
  · cases hq; exact rtc50 k
  · cases hq; exact rtc51 k
  · cases hq; exact rtc52 k
  · cases hq; exact rtc53 k
  · cases hq; exact rtc54 k
  · cases hq; exact rtc55 k
  · cases hq; exact rtc56 k
  · cases hq; exact rtc57 k (Nat.lt_of_lt_of_le hk hn)
  · cases hq; exact rtc58 k
  · cases hq; exact rtc59 k
  · cases hq; exact rtc60 k
  · cases hq; exact rtc61 k
  · cases hq; exact rtc62 k
  · cases hq; exact rtc63 k
  · cases hq; exact rtc64 k
  · cases hq; exact rtc65 k
  · cases hq; exact rtc66 k
  · cases hq; exact rtc67 k
  · cases hq; exact rtc68 k
  · cases hq; exact rtc69 k
  · cases hq; exact rtc70 k
  · cases hq; exact rtc71 k
  · cases hq; exact rtc72 k
  · cases hq; exact rtc73 k
  · cases hq; exact rtc74 k
  · cases hq; exact rtc75 k (Nat.lt_of_lt_of_le hk hn)
  · cases hq; exact rtc82 k
  · cases hq; exact rtc83 k
  · cases hq; exact rtc84 k
  · cases hq; exact rtc90 k
  · cases hq; exact rtc101 k
  · cases hq; exact rtc102 k
  · cases hq; exact rtc103 k
  · cases hq; exact rtc91 k
  · cases hq; exact rtc93 k
  · cases hq; exact rtc94 k
  · cases hq; exact rtc95 k
  · cases hq; exact rtc96 k
  · cases hq; exact rtc97 k
  · cases hq; exact rtc98 k
  · cases hq; exact rtc99 k
  · cases hq; exact rtc92 k
  · cases hq; exact rtc76 k
  · cases hq; exact rtc77 k
  · cases hq; exact rtc78 k
  · cases hq; exact rtc79 k
  · cases hq; exact rtc80 k
  · cases hq; exact rtc81 k
  · cases hq; exact rtc85 k
  · cases hq; exact rtc112 k
  · cases hq; exact rtc113 k
  · cases hq; exact rtc114 k
  · cases hq
/-! ===== typed memory that grows ===== -/
/-- nk: kinds of new cells; X: cells without a kind that may change (and get one); l: places that may change -/
def gSg (nk X l : List Nat) (ty : Nat → Nat) (h : gH) (ty2 : Nat → Nat) (h2 : gH) : Prop :=
  gJ rT 1027 ty2 h2 ∧ h.1 ≤ h2.1 ∧ (∀ x ∈ X, rT (ty x) = none) ∧ (∀ c, ty2 c = ty c ∨ ((h.1 ≤ c ∨ c ∈ X) ∧ ty2 c ∈ nk)) ∧
  ∀ c, c < h.1 → h2.2.2.1 c = h.2.2.1 c ∧ h2.2.2.2.1 c = h.2.2.2.1 c ∧ (¬ c ∈ X → ∀ k, ¬ gpl rT (ty c) k ∈ l → h2.2.2.2.2 c k = h.2.2.2.2 c k)
/-- a cell gets a kind -/
def gtu (ty : Nat → Nat) (a q : Nat) : Nat → Nat := fun b => if b = a then q else ty b
theorem gtu_eq {ty : Nat → Nat} {a q : Nat} : gtu ty a q a = q := if_pos rfl
theorem gtu_ne {ty : Nat → Nat} {a q b : Nat} (h : ¬ b = a) : gtu ty a q b = ty b := if_neg h
theorem zi_nn {z : Int} (h0 : 0 ≤ z) (h1 : z < 2147483648) : (0 : Int32) ≤ zi z := by
  rw [Int32.le_iff_toInt_le, zi_in ⟨by omega, h1⟩]
  exact h0
theorem gprim_b {z : Int} (h0 : -128 ≤ z) (h1 : z ≤ 127) : gprim .byte (.int (zi z)) = true := by
  show (decide ((-128 : Int32) ≤ zi z) && decide (zi z ≤ (127 : Int32))) = true
  have e := zi_in (a := z) ⟨by omega, by omega⟩
  have h2 : (-128 : Int32) ≤ zi z := by
    rw [Int32.le_iff_toInt_le, e]
    exact h0
  have h3 : zi z ≤ (127 : Int32) := by
    rw [Int32.le_iff_toInt_le, e]
    exact h1
  simp [h2, h3]
section GG
variable {nk nk2 X X2 l l2 : List Nat} {ty ty1 ty2 : Nat → Nat} {h h1 h2 : gH} {c k q a : Nat} {r : gRg} {v : Value}
theorem gSg.rf (hJ : gJ rT 1027 ty h) (hX : ∀ x ∈ X, rT (ty x) = none) : gSg nk X l ty h ty h := ⟨hJ, Nat.le_refl _, hX, fun _ => Or.inl rfl, fun _ _ => ⟨rfl, rfl, fun _ _ _ => rfl⟩⟩
theorem gSg.ss (g : gSg nk X l ty h ty1 h1) (s : gSs rT 1027 ty1 l2 h1 h2) (hl : ∀ x ∈ l2, x ∈ l) : gSg nk X l ty h ty1 h2 := by
  obtain ⟨g1, g2, g3, g4, g5⟩ := g
  obtain ⟨s0, s1, s2, s3, s4, s5⟩ := s
  refine ⟨s0, by omega, g3, g4, fun c hc => ?_⟩
  obtain ⟨e1, e2, e3⟩ := g5 c hc
  refine ⟨by rw [s3]; exact e1, by rw [s4]; exact e2, fun hX k hk => ?_⟩
  have ht : ty1 c = ty c := by
    rcases g4 c with e | ⟨e | e, -⟩
    · exact e
    · omega
    · exact absurd e hX
  rw [s5 c k (fun w => hk (hl _ (by rw [ht] at w; exact w)))]
  exact e3 hX k hk
theorem gSg.tr (g : gSg nk X l ty h ty1 h1) (s : gSg nk2 X2 l2 ty1 h1 ty2 h2) (hl : ∀ x ∈ l2, x ∈ l) (hn : ∀ x ∈ nk2, x ∈ nk) (hX : ∀ x ∈ X2, h.1 ≤ x ∨ x ∈ X) : gSg nk X l ty h ty2 h2 := by
  obtain ⟨g1, g2, g3, g4, g5⟩ := g
  obtain ⟨s1, s2, s3, s4, s5⟩ := s
  refine ⟨s1, by omega, g3, fun c => ?_, fun c hc => ?_⟩
  · rcases s4 c with e | ⟨e, w⟩
    · rcases g4 c with e2 | ⟨e2, w2⟩
      · exact Or.inl (e.trans e2)
      · exact Or.inr ⟨e2, by rw [e]; exact w2⟩
    · refine Or.inr ⟨?_, hn _ w⟩
      rcases e with e | e
      · exact Or.inl (by omega)
      · exact hX _ e
  · obtain ⟨e1, e2, e3⟩ := g5 c hc
    obtain ⟨d1, d2, d3⟩ := s5 c (by omega)
    refine ⟨d1.trans e1, d2.trans e2, fun hx k hk => ?_⟩
    have ht : ty1 c = ty c := by
      rcases g4 c with e | ⟨e | e, -⟩
      · exact e
      · omega
      · exact absurd e hx
    have hx2 : ¬ c ∈ X2 := fun w => (hX c w).elim (fun z => by omega) hx
    exact (d3 hx2 k (fun w => hk (hl _ (by rw [ht] at w; exact w)))).trans (e3 hx k hk)
theorem gSg.typ (g : gSg nk X l ty h ty2 h2) (hJ : gJ rT 1027 ty h) (ht : ty c = q) (hT : rT q = some r) : ty2 c = q := by
  have hc := (hJ c r (by rw [ht]; exact hT)).2.1
  rcases g.2.2.2.1 c with e | ⟨e | e, -⟩
  · exact e.trans ht
  · omega
  · have := g.2.2.1 c e
    rw [ht, hT] at this
    cases this
theorem gSg.at (g : gSg nk X l ty h ty2 h2) (hJ : gJ rT 1027 ty h) (ht : ty c = q) (hT : rT q = some r) (hn : ¬ gpl rT q k ∈ l) (e : h.2.2.2.2 c k = v) : h2.2.2.2.2 c k = v := by
  have hc := (hJ c r (by rw [ht]; exact hT)).2.1
  have hX : ¬ c ∈ X := fun w => by
    have := g.2.2.1 c w
    rw [ht, hT] at this
    cases this
  exact ((g.2.2.2.2 c hc).2.2 hX k (by rw [ht]; exact hn)).trans e
theorem gSg.len (g : gSg nk X l ty h ty2 h2) (hJ : gJ rT 1027 ty h) (ht : ty c = q) (hT : rT q = some r) : h2.2.2.2.1 c = h.2.2.2.1 c := (g.2.2.2.2 c (hJ c r (by rw [ht]; exact hT)).2.1).2.1
theorem gSg.uq (g : gSg nk X l ty h ty2 h2) (u : gUq ty) (hn : ∀ x ∈ nk, 100 ≤ x) : gUq ty2 := by
  intro a b e e1 e2
  have ha : ty2 a = ty a := (g.2.2.2.1 a).elim id (fun w => by have := hn _ w.2; omega)
  have hb : ty2 b = ty b := (g.2.2.2.1 b).elim id (fun w => by have := hn _ w.2; omega)
  exact u a b (by rw [← ha, ← hb]; exact e) (by omega) (by omega)
/-- a cell of a kind that isn't new was of that kind -/
theorem gSg.old (g : gSg nk X l ty h ty2 h2) (ht : ty2 c = q) (hn : ¬ q ∈ nk) : ty c = q := (g.2.2.2.1 c).elim (fun e => e ▸ ht) (fun w => absurd (ht ▸ w.2) hn)
/-- cells without a kind -/
theorem gSg.raw (g : gSg nk X l ty h ty2 h2) (hc : c < h.1) (hX : ¬ c ∈ X) : ty2 c = ty c ∧ c < h2.1 ∧ h2.2.2.1 c = h.2.2.1 c ∧ h2.2.2.2.1 c = h.2.2.2.1 c := by
  obtain ⟨g1, g2, g3, g4, g5⟩ := g
  refine ⟨?_, by omega, (g5 c hc).1, (g5 c hc).2.1⟩
  rcases g4 c with e | ⟨e | e, -⟩
  · exact e
  · omega
  · exact absurd e hX
theorem gSg.rawat (g : gSg nk X l ty h ty2 h2) (hc : c < h.1) (hX : ¬ c ∈ X) (ht : ty c = 200) (hn : ∀ x ∈ l, x < 200000) (e : h.2.2.2.2 c k = v) : h2.2.2.2.2 c k = v := by
  refine ((g.2.2.2.2 c hc).2.2 hX k (fun w => ?_)).trans e
  have := hn _ w
  rw [ht] at this
  have e2 : gpl rT 200 k = 1000 * 200 + k := rfl
  omega
theorem gSta.gr (g : gSg nk X l ty h ty2 h2) (hl : ∀ x ∈ l, 1000 ≤ x) (hX : ∀ x ∈ X, 2 ≤ x) (p : gSta ty h) : gSta ty2 h2 := by
  obtain ⟨p1, p2, p3, p4, p5, p6, p7, p8, p9⟩ := p
  obtain ⟨g1, g2, g3, g4, g5⟩ := g
  have x0 : ¬ (0 : Nat) ∈ X := fun w => by have := hX _ w; omega
  have x1 : ¬ (1 : Nat) ∈ X := fun w => by have := hX _ w; omega
  obtain ⟨a1, a2, a3⟩ := g5 0 (by omega)
  obtain ⟨b1, b2, b3⟩ := g5 1 (by omega)
  have t0 : ty2 0 = 0 := by
    rcases g4 0 with e | ⟨e | e, -⟩
    · exact e.trans p1
    · omega
    · exact absurd e x0
  have t1 : ty2 1 = 0 := by
    rcases g4 1 with e | ⟨e | e, -⟩
    · exact e.trans p2
    · omega
    · exact absurd e x1
  refine ⟨t0, t1, by omega, by rw [a1]; exact p4, by rw [a2]; exact p5, by rw [b1]; exact p6, by rw [b2]; exact p7, fun i hi => ?_, fun i hi => ?_⟩
  · rw [a3 x0 i (fun w => by have := hl _ w; rw [p1] at this; have e : gpl rT 0 i = 1000 * 0 + i := rfl; omega)]
    exact p8 i hi
  · rw [b3 x1 i (fun w => by have := hl _ w; rw [p2] at this; have e : gpl rT 0 i = 1000 * 0 + i := rfl; omega)]
    exact p9 i hi
/-- no cell is of these kinds -/
def gNo (qs : List Nat) (ty : Nat → Nat) : Prop := ∀ c, ¬ ty c ∈ qs
theorem gNo.gr {qs : List Nat} (g : gSg nk X l ty h ty2 h2) (hn : ∀ x ∈ nk, ¬ x ∈ qs) (p : gNo qs ty) : gNo qs ty2 := fun c w => (g.2.2.2.1 c).elim (fun e => p c (e ▸ w)) (fun e => hn _ e.2 w)
theorem gNo.sub {qs qs2 : List Nat} (hn : ∀ x ∈ qs2, x ∈ qs) (p : gNo qs ty) : gNo qs2 ty := fun c w => p c (hn _ w)
theorem gOs.up {s : gSl} (hs : (s.1 = 2 ∨ s.1 = 3) → (rT s.2.1.toNat).isSome = true) (hJ : gJ rT 1027 ty h) (ha : rT (ty a) = none) (o : gOs s ty v) : gOs s (gtu ty a q) v := by
  have key : ∀ b : Nat, (s.1 = 2 ∨ s.1 = 3) → ty b = s.2.1.toNat → gtu ty a q b = s.2.1.toNat := fun b h2 e => by
    have h3 := hs h2
    rw [← e] at h3
    rw [gtu_ne (fun w => by rw [w, ha] at h3; cases h3)]
    exact e
  obtain ⟨s1, s2, s3⟩ := s
  match s1, o, key with
  | 0, o, _ => exact o
  | 1, o, _ => exact o
  | 2, ⟨b, e, w⟩, key => exact ⟨b, e, key b (Or.inl rfl) w⟩
  | 3, o, key =>
    rcases o with e | ⟨b, e, w⟩
    · exact Or.inl e
    · exact Or.inr ⟨b, e, key b (Or.inr rfl) w⟩
  | (n + 4), _, _ => trivial
theorem gJ.up (hJ : gJ rT 1027 ty h) (ha : rT (ty a) = none) (hq : ∀ r, rT q = some r → 1027 ≤ a ∧ a < h.1 ∧ h.2.2.1 a = some r.1 ∧ r.2.1 ≤ h.2.2.2.1 a ∧ h.2.2.2.1 a ≤ r.2.2.1 ∧ ∀ k, gIn r (h.2.2.2.1 a) k → gOs (r.2.2.2 k) (gtu ty a q) (h.2.2.2.2 a k)) : gJ rT 1027 (gtu ty a q) h := by
  intro b s hb
  by_cases hba : b = a
  · subst hba
    rw [gtu_eq] at hb
    exact hq s hb
  · rw [gtu_ne hba] at hb
    obtain ⟨x1, x2, x3, x4, x5, x6⟩ := hJ b s hb
    exact ⟨x1, x2, x3, x4, x5, fun k hk => (x6 k hk).up (rTc _ _ k _ hb hk x5) hJ ha⟩
theorem gJ.nok (hJ : gJ rT 1027 ty h) (ha : h.1 ≤ a) : rT (ty a) = none := by
  cases hr : rT (ty a) with
  | none => rfl
  | some r => have := (hJ a r hr).2.1; omega
/-- a raw cell changes -/
theorem gJ.rput (hJ : gJ rT 1027 ty h) (ha : rT (ty a) = none) : gJ rT 1027 ty (gput h a k v) := by
  intro b s hb
  obtain ⟨x1, x2, x3, x4, x5, x6⟩ := hJ b s hb
  refine ⟨x1, x2, x3, x4, x5, fun j hj => ?_⟩
  rw [gput_ne (fun w => by rw [w.1, ha] at hb; cases hb)]
  exact x6 j hj
theorem gJ.mk (hJ : gJ rT 1027 ty h) (hn : 1027 ≤ h.1) {kd : Option (Nat ⊕ Nat)} {len slots : Nat} {f : Nat → Value} (hq : ∀ r, rT q = some r → kd = some r.1 ∧ r.2.1 ≤ len ∧ len ≤ r.2.2.1 ∧ ∀ k, gIn r len k → gOs (r.2.2.2 k) (gtu ty h.1 q) (f k)) : gJ rT 1027 (gtu ty h.1 q) (gnew h kd len slots f) := by
  have ha := hJ.nok (Nat.le_refl _)
  intro b s hb
  by_cases hba : b = h.1
  · subst hba
    rw [gtu_eq] at hb
    obtain ⟨y1, y2, y3, y4⟩ := hq s hb
    refine ⟨hn, Nat.lt_succ_self _, ?_, ?_, ?_, fun k hk => ?_⟩
    · show (if h.1 = h.1 then kd else _) = _
      rw [if_pos rfl]
      exact y1
    · show _ ≤ (if h.1 = h.1 then len else _)
      rw [if_pos rfl]
      exact y2
    · show (if h.1 = h.1 then len else _) ≤ _
      rw [if_pos rfl]
      exact y3
    · have e : (gnew h kd len slots f).2.2.2.1 h.1 = len := if_pos rfl
      rw [e] at hk
      show gOs _ _ ((if h.1 = h.1 then f else _) k)
      rw [if_pos rfl]
      exact y4 k hk
  · rw [gtu_ne hba] at hb
    obtain ⟨x1, x2, x3, x4, x5, x6⟩ := hJ b s hb
    have e1 : (gnew h kd len slots f).2.2.1 b = h.2.2.1 b := if_neg hba
    have e2 : (gnew h kd len slots f).2.2.2.1 b = h.2.2.2.1 b := if_neg hba
    have e3 : (gnew h kd len slots f).2.2.2.2 b = h.2.2.2.2 b := if_neg hba
    refine ⟨x1, Nat.lt_succ_of_lt x2, e1.trans x3, by rw [e2]; exact x4, by rw [e2]; exact x5, fun k hk => ?_⟩
    rw [e2] at hk
    rw [e3]
    exact (x6 k hk).up (rTc _ _ k _ hb hk x5) hJ ha
theorem gSg.mk (hJ : gJ rT 1027 ty h) {kd : Option (Nat ⊕ Nat)} {len slots : Nat} {f : Nat → Value} (g : gJ rT 1027 (gtu ty h.1 q) (gnew h kd len slots f)) : gSg [q] [] [] ty h (gtu ty h.1 q) (gnew h kd len slots f) := by
  refine ⟨g, Nat.le_succ _, (fun x hx => by cases hx), fun c => ?_, fun c hc => ?_⟩
  · by_cases hca : c = h.1
    · exact Or.inr ⟨Or.inl (by omega), by rw [hca, gtu_eq]; exact List.mem_singleton.mpr rfl⟩
    · exact Or.inl (gtu_ne hca)
  · have hne : ¬ c = h.1 := by omega
    refine ⟨if_neg hne, if_neg hne, fun _ k _ => ?_⟩
    have e3 : (gnew h kd len slots f).2.2.2.2 c = h.2.2.2.2 c := if_neg hne
    rw [e3]
end GG
section GGU
variable {ty : Nat → Nat} {q a : Nat}
theorem gUq.up (u : gUq ty) (hq : 100 ≤ q ∨ gNo [q] ty) : gUq (gtu ty a q) := by
  intro x y e e1 e2
  unfold gtu at e e1 e2
  by_cases hx : x = a
  · by_cases hy : y = a
    · rw [hx, hy]
    · rw [if_pos hx, if_neg hy] at e
      rw [if_pos hx] at e2
      rcases hq with hq | hq
      · omega
      · exact absurd (by rw [← e]; exact List.mem_singleton.mpr rfl) (hq y)
  · by_cases hy : y = a
    · rw [if_neg hx, if_pos hy] at e
      rw [if_neg hx] at e2
      rcases hq with hq | hq
      · omega
      · exact absurd (by rw [e]; exact List.mem_singleton.mpr rfl) (hq x)
    · rw [if_neg hx, if_neg hy] at e
      rw [if_neg hx] at e1 e2
      exact u x y e e1 e2
theorem gNo.up {qs : List Nat} (p : gNo qs ty) (hq : ¬ q ∈ qs) : gNo qs (gtu ty a q) := fun c w => by
  unfold gtu at w
  split at w
  · exact hq w
  · exact p c w
end GGU
section GGS
variable {P : Nat → Option gMt} {cn : Nat → Option Nat} {d : Nat} {t : gMt} {pc pc' : Nat} {L L' : gL} {S S' : List Value} {h0 h : gH} {F : gR → gL → Prop} {I : Instr} {len : Nat}
variable {ty : Nat → Nat} {l : List Nat} {c k q ci idx a : Nat} {r : gRg}
/-- a new row, all of it 0 -/
theorem gs_newr {aty : ArrayType} {u : Nat} {z : Int} (q : Nat) (hlk : glk pc (gmC t) = some (.newarray aty, 2)) (hx : ¬ pc ∈ gmE t) (hu : gpt aty = some u) (hJ : gJ rT 1027 ty h) (hn : 1027 ≤ h.1) (hz0 : 0 ≤ z) (hz1 : z ≤ 1000000) (hT : rT q = some r) (hr : r.1 = .inl u) (hl1 : (r.2.1 : Int) ≤ z) (hl2 : z ≤ (r.2.2.1 : Int)) (hs : ∀ (j : Nat) (ty9 : Nat → Nat), gOs (r.2.2.2 j) ty9 (defaultValue (newarray.typeOf aty)))
    (kk : ∀ (ty2 : Nat → Nat) (h2 : gH) (a : Nat), gSg [q] [] [] ty h ty2 h2 → ty2 a = q → (h2.2.2.2.1 a : Int) = z → h2.1 = h.1 + 1 → (h2.2.1 : Int) = h.2.1 + z → a = h.1 → (∀ j, h2.2.2.2.2 a j = defaultValue (newarray.typeOf aty)) → (gUq ty → (100 ≤ q ∨ gNo [q] ty) → gUq ty2) → gz P gGG cn d t (pc + 2) L (.ref a :: S) h2 F) : gz P gGG cn d t pc L (.int (zi z) :: S) h F := by
  have e1 : (zi z).toNatClampNeg = z.toNat := zi_nat hz0 (by omega)
  refine gz_newa hlk hx hu (zi_nn hz0 (by omega)) (by rw [e1]; omega) ?_
  rw [e1]
  have g := hJ.mk (q := q) hn (kd := some (.inl u)) (len := z.toNat) (slots := z.toNat) (f := fun _ => defaultValue (newarray.typeOf aty)) (fun r' hr' => by
    rw [hT] at hr'
    cases hr'
    refine ⟨by rw [hr], by omega, by omega, fun k _ => hs k _⟩)
  refine kk _ _ h.1 (gSg.mk hJ g) gtu_eq ?_ rfl ?_ rfl (fun j => ?_) (fun u hq => u.up hq)
  · have e2 : (gnew h (some (.inl u)) z.toNat z.toNat (fun _ => defaultValue (newarray.typeOf aty))).2.2.2.1 h.1 = z.toNat := if_pos rfl
    rw [e2]
    omega
  · show ((h.2.1 + z.toNat : Nat) : Int) = _
    omega
  · have e3 : (gnew h (some (.inl u)) z.toNat z.toNat (fun _ => defaultValue (newarray.typeOf aty))).2.2.2.2 h.1 = (fun _ => defaultValue (newarray.typeOf aty)) := if_pos rfl
    rw [e3]
/-- a new object without a kind -/
theorem gs_newo (hlk : glk pc (gmC t) = some (.new idx, 3)) (hx : ¬ pc ∈ gmE t) (hc : (gmK t).2.2.2.2 idx = some (.inl ci)) (hJ : gJ rT 1027 ty h) (hn : 1027 ≤ h.1)
    (kk : ∀ (ty2 : Nat → Nat) (h2 : gH) (a : Nat), gSg [200] [] [] ty h ty2 h2 → ty2 a = 200 → h2.2.2.1 a = some (.inr ci) → h2.2.2.2.1 a = 0 → h2.1 = h.1 + 1 → h2.2.1 = h.2.1 + gGG.2.2.2.1 ci → a = h.1 → (∀ k, h2.2.2.2.2 a k = defaultValue (gGG.2.1 ci k)) → gz P gGG cn d t (pc + 3) L (.ref a :: S) h2 F) : gz P gGG cn d t pc L S h F := by
  refine gz_new hlk hx hc ?_
  have g := hJ.mk (q := 200) hn (kd := some (.inr ci)) (len := 0) (slots := gGG.2.2.2.1 ci) (f := fun k => defaultValue (gGG.2.1 ci k)) (fun r' hr' => by cases hr')
  refine kk _ _ h.1 (gSg.mk hJ g) gtu_eq (if_pos rfl) (if_pos rfl) rfl rfl rfl (fun k => ?_)
  have e3 : (gnew h (some (.inr ci)) 0 (gGG.2.2.2.1 ci) (fun k => defaultValue (gGG.2.1 ci k))).2.2.2.2 h.1 = (fun k => defaultValue (gGG.2.1 ci k)) := if_pos rfl
  rw [e3]
/-- a new row of objects, without a kind -/
theorem gs_newq {u : Nat} {z : Int} (hlk : glk pc (gmC t) = some (.anewarray idx, 3)) (hx : ¬ pc ∈ gmE t) (hc : (gmK t).2.2.2.2 (idx + 100000) = some (.inr u)) (hJ : gJ rT 1027 ty h) (hn : 1027 ≤ h.1) (hz0 : 0 ≤ z) (hz1 : z ≤ 1000000)
    (kk : ∀ (ty2 : Nat → Nat) (h2 : gH) (a : Nat), gSg [200] [] [] ty h ty2 h2 → ty2 a = 200 → h2.2.2.1 a = some (.inl u) → (h2.2.2.2.1 a : Int) = z → h2.1 = h.1 + 1 → (h2.2.1 : Int) = h.2.1 + z → a = h.1 → gz P gGG cn d t (pc + 3) L (.ref a :: S) h2 F) : gz P gGG cn d t pc L (.int (zi z) :: S) h F := by
  have e1 : (zi z).toNatClampNeg = z.toNat := zi_nat hz0 (by omega)
  have g := hJ.mk (q := 200) hn (kd := some (.inl u)) (len := z.toNat) (slots := z.toNat) (f := fun _ => Value.null) (fun r' hr' => by cases hr')
  refine gz_1 hlk (fun q => q.elim (fun z => by cases z) hx) rfl rfl (pc' := pc + 3) (S' := .ref h.1 :: S) (h' := gnew h (some (.inl u)) z.toNat z.toNat (fun _ => Value.null)) ?_ (kk _ _ h.1 (gSg.mk hJ g) gtu_eq (if_pos rfl) ?_ rfl ?_ rfl)
  · simp only [gst1, gnewq, hc]
    rw [e1, if_pos ⟨trivial, zi_nn hz0 (by omega), by omega⟩]
  · have e2 : (gnew h (some (.inl u)) z.toNat z.toNat (fun _ => Value.null)).2.2.2.1 h.1 = z.toNat := if_pos rfl
    rw [e2]
    omega
  · show ((h.2.1 + z.toNat : Nat) : Int) = _
    omega
/-- a field of an object without a kind is put -/
theorem gs_rput {v : Value} (hlk : glk pc (gmC t) = some (.putfield idx, 3)) (hx : ¬ pc ∈ gmE t) (hf : (gmK t).1 idx = some (ci, k)) (hJ : gJ rT 1027 ty h) (ha : ty a = 200) (h1 : 1027 ≤ a) (h2 : a < h.1) (h3 : h.2.2.1 a = some (.inr ci)) (hv : gfit (gGG.2.1 ci k) v = true) (hfin : gGG.2.2.1 ci k = false ∨ gmI t = some ci)
    (kk : ∀ h' : gH, gSg [] [a] [] ty h ty h' → h'.1 = h.1 → h'.2.1 = h.2.1 → h'.2.2.1 a = some (.inr ci) → h'.2.2.2.1 a = h.2.2.2.1 a → h'.2.2.2.2 a k = v → (∀ j, ¬ j = k → h'.2.2.2.2 a j = h.2.2.2.2 a j) → gz P gGG cn d t (pc + 3) L S h' F) : gz P gGG cn d t pc L (v :: .ref a :: S) h F := by
  have hT : rT (ty a) = none := by rw [ha]; rfl
  refine gz_put hlk hx hf h1 h2 h3 hv hfin (kk _ ⟨hJ.rput hT, Nat.le_refl _, (fun x hx => by rw [List.mem_singleton.mp hx]; exact hT), fun _ => Or.inl rfl, fun b _ => ⟨rfl, rfl, fun hb j _ => gput_ne (fun w => hb (List.mem_singleton.mpr w.1))⟩⟩ rfl rfl h3 rfl gput_eq (fun j hj => gput_ne (fun w => hj w.2)))
/-- an object is put into a row without a kind -/
theorem gs_rast {u b j : Nat} {i : Int} (hlk : glk pc (gmC t) = some (.aastore, 1)) (hx : ¬ pc ∈ gmE t) (hJ : gJ rT 1027 ty h) (ha : ty a = 200) (h1 : 1027 ≤ a) (h2 : a < h.1) (h3 : h.2.2.1 a = some (.inl u)) (hcn : cn u = some ci) (hb1 : 1027 ≤ b) (hb2 : b < h.1) (hb3 : h.2.2.1 b = some (.inr ci)) (hij : i = (j : Int)) (hj : j < h.2.2.2.1 a) (hj2 : h.2.2.2.1 a ≤ 1000000)
    (kk : ∀ h' : gH, gSg [] [a] [] ty h ty h' → h'.1 = h.1 → h'.2.1 = h.2.1 → h'.2.2.1 a = some (.inl u) → h'.2.2.2.1 a = h.2.2.2.1 a → h'.2.2.2.2 a j = .ref b → (∀ i, ¬ i = j → h'.2.2.2.2 a i = h.2.2.2.2 a i) → gz P gGG cn d t (pc + 1) L S h' F) : gz P gGG cn d t pc L (.ref b :: .int (zi i) :: .ref a :: S) h F := by
  have hT : rT (ty a) = none := by rw [ha]; rfl
  subst hij
  have e1 : (zi (j : Int)).toNatClampNeg = j := by
    rw [zi_nat (by omega) (by omega), Int.toNat_natCast]
  refine gz_1 hlk (fun q => q.elim (fun z => by cases z) hx) rfl rfl (pc' := pc + 1) (S' := S) (h' := gput h a j (.ref b)) ?_ (kk _ ⟨hJ.rput hT, Nat.le_refl _, (fun x hx => by rw [List.mem_singleton.mp hx]; exact hT), fun _ => Or.inl rfl, fun b _ => ⟨rfl, rfl, fun hb j _ => gput_ne (fun w => hb (List.mem_singleton.mpr w.1))⟩⟩ rfl rfl h3 rfl gput_eq (fun j hj => gput_ne (fun w => hj w.2)))
  simp only [gst1, gaast, h3, hcn]
  rw [if_pos ⟨hb3, trivial, h1, h2, hb1, hb2, zi_gin (by omega) (by omega) (by omega)⟩, e1]
/-- a cell gets its kind -/
theorem gSg.ad (q : Nat) (hJ : gJ rT 1027 ty h) (ha : ty a = 200) (h1 : 1027 ≤ a) (h2 : a < h.1) (hT : rT q = some r) (h3 : h.2.2.1 a = some r.1) (h4 : r.2.1 ≤ h.2.2.2.1 a) (h5 : h.2.2.2.1 a ≤ r.2.2.1) (h6 : ∀ k, gIn r (h.2.2.2.1 a) k → gOs (r.2.2.2 k) (gtu ty a q) (h.2.2.2.2 a k)) : gSg [q] [a] [] ty h (gtu ty a q) h := by
  have hn : rT (ty a) = none := by rw [ha]; rfl
  refine ⟨hJ.up hn (fun r' hr' => ?_), Nat.le_refl _, (fun x hx => by rw [List.mem_singleton.mp hx]; exact hn), fun c => ?_, fun c _ => ⟨rfl, rfl, fun _ _ _ => rfl⟩⟩
  · rw [hT] at hr'
    cases hr'
    exact ⟨h1, h2, h3, h4, h5, h6⟩
  · by_cases hc : c = a
    · exact Or.inr ⟨Or.inr (List.mem_singleton.mpr hc), by rw [hc, gtu_eq]; exact List.mem_singleton.mpr rfl⟩
    · exact Or.inl (gtu_ne hc)
theorem gSg.adx (q : Nat) (hJ : gJ rT 1027 ty h) (ha : ty a = 200) (h1 : 1027 ≤ a) (h2 : a < h.1) (hT : rT q = some r) (h3 : h.2.2.1 a = some r.1) (h4 : r.2.1 ≤ h.2.2.2.1 a) (h5 : h.2.2.2.1 a ≤ r.2.2.1) (h6 : ∀ ty2 : Nat → Nat, (∀ b q', ty b = q' → q' ≠ 200 → ty2 b = q') → ∀ k, gIn r (h.2.2.2.1 a) k → gOs (r.2.2.2 k) ty2 (h.2.2.2.2 a k)) : ∃ ty2 : Nat → Nat, gSg [q] [a] [] ty h ty2 h ∧ ty2 a = q ∧ (gUq ty → (100 ≤ q ∨ gNo [q] ty) → gUq ty2) :=
  ⟨gtu ty a q, gSg.ad q hJ ha h1 h2 hT h3 h4 h5 (h6 _ (fun b q' e hn => (gtu_ne (fun w => hn (by rw [← e, w]; exact ha))).trans e)), gtu_eq, fun u hq => u.up hq⟩
theorem gs_rlen {u : Nat} {z : Int} {T9 : FieldType} (hlk : glk pc (gmC t) = some (.arraylength, 1)) (hx : ¬ pc ∈ gmE t) (h1 : a < h.1) (h2 : h.2.2.1 a = some (.inl u)) (h9 : gGG.1[u]? = some T9) (hz : (h.2.2.2.1 a : Int) = z) (kk : gz P gGG cn d t (pc + 1) L (.int (zi z) :: S) h F) : gz P gGG cn d t pc L (.ref a :: S) h F := by
  refine gz_len hlk hx h1 h2 h9 ?_
  rw [zi_nI, hz]
  exact kk
theorem gJ.cell (hJ : gJ rT 1027 ty h) (ht : ty c = q) (hT : rT q = some r) : 1027 ≤ c ∧ c < h.1 ∧ h.2.2.1 c = some r.1 := by
  obtain ⟨x1, x2, x3, -⟩ := hJ c r (by rw [ht]; exact hT)
  exact ⟨x1, x2, x3⟩
/-- a stretch of a row is copied into another row -/
theorem gs_copy {u qa qb : Nat} {a b : Nat} {ra rb : gRg} {lo hi lo2 hi2 sp dp n : Int} {T9 : FieldType} (hlk : glk pc (gmC t) = some (.invokestatic idx, 3)) (hx : ¬ pc ∈ gmE t) (hd : ¬ d = 0) (hT : gmT t idx = some (3, 0)) (hS : gSs rT 1027 ty l h0 h) (hta : ty a = qa) (hTa : rT qa = some ra) (hra : ra.1 = .inl u) (htb : ty b = qb) (hTb : rT qb = some rb) (hrb : rb.1 = .inl u) (hu : u = 0 ∧ T9 = .int ∨ u = 1 ∧ T9 = .byte) (hma : ra.2.2.1 ≤ 1000000) (hmb : rb.2.2.1 ≤ 1000000) (hsa : ∀ j, ra.2.2.2 j = (0, lo, hi)) (hsb : ∀ j, rb.2.2.2 j = (0, lo2, hi2)) (hw : lo ≤ lo2 ∧ hi2 ≤ hi) (hby : u = 1 → -128 ≤ lo2 ∧ hi2 ≤ 127) (hsp : 0 ≤ sp) (hdp : 0 ≤ dp) (hn : 0 ≤ n) (hsb2 : sp + n ≤ (h.2.2.2.1 b : Int)) (hda2 : dp + n ≤ (h.2.2.2.1 a : Int)) (hsm : gsum S ≤ 8) (hl : ∀ j, gpl rT qa j ∈ l)
    (kk : ∀ h' : gH, gSs rT 1027 ty l h0 h' → (∀ c j, ¬ c = a → h'.2.2.2.2 c j = h.2.2.2.2 c j) → gz P gGG cn d t (pc + 3) L S h' F) : gz P gGG cn d t pc L (.int (zi n) :: .int (zi dp) :: .ref a :: .int (zi sp) :: .ref b :: S) h F := by
  obtain ⟨a1, a2, a3, a4, a5, a6⟩ := hS.1 a ra (by rw [hta]; exact hTa)
  obtain ⟨b1, b2, b3, b4, b5, b6⟩ := hS.1 b rb (by rw [htb]; exact hTb)
  have es : (zi sp).toNatClampNeg = sp.toNat := zi_nat hsp (by omega)
  have ed : (zi dp).toNatClampNeg = dp.toNat := zi_nat hdp (by omega)
  have en : (zi n).toNatClampNeg = n.toNat := zi_nat hn (by omega)
  have hval : ∀ j, j < h.2.2.2.1 b → ∃ z : Int, h.2.2.2.2 b j = .int (zi z) ∧ lo2 ≤ z ∧ z ≤ hi2 := fun j hj => by
    have x := b6 j (by unfold gIn; rw [hrb]; exact hj)
    rw [hsb] at x
    exact x
  refine gz_copy hlk hx hd hT (S' := S) (h' := (h.1, h.2.1, h.2.2.1, h.2.2.2.1, gcpM h.2.2.2.2 a b sp.toNat dp.toNat n.toNat)) ?_ (kk _ ⟨fun c r hc => ?_, hS.2.1, hS.2.2.1, hS.2.2.2.1, hS.2.2.2.2.1, fun c k hk => ?_⟩ (fun c j hc => ?_))
  · have hG : gGG.1[u]? = some T9 := by
      rcases hu with ⟨rfl, rfl⟩ | ⟨rfl, rfl⟩ <;> rfl
    unfold gcopy
    simp only [a3, b3, hra, hrb, hG]
    rw [es, ed, en, if_pos]
    refine ⟨trivial, by omega, a1, b1, a2, b2, zi_nn hsp (by omega), zi_nn hdp (by omega), zi_nn hn (by omega), by omega, by omega, hsm, ?_⟩
    rw [List.all_eq_true]
    intro i hi
    rw [List.mem_range] at hi
    obtain ⟨z, e, z1, z2⟩ := hval (sp.toNat + i) (by omega)
    rw [e]
    rcases hu with ⟨rfl, rfl⟩ | ⟨rfl, rfl⟩
    · rfl
    · have := hby rfl
      exact gprim_b (by omega) (by omega)
  · obtain ⟨x1, x2, x3, x4, x5, x6⟩ := hS.1 c r hc
    refine ⟨x1, x2, x3, x4, x5, fun k hk => ?_⟩
    have x7 := x6 k hk
    show gOs _ ty (gcpM h.2.2.2.2 a b sp.toNat dp.toNat n.toNat c k)
    unfold gcpM
    by_cases hca : c = a
    · rw [if_pos hca]
      split
      · rename_i hj
        obtain ⟨z, e, z1, z2⟩ := hval (sp.toNat + (k - dp.toNat)) (by omega)
        have er : r = ra := by
          rw [hca, hta, hTa] at hc
          exact (Option.some.inj hc).symm
        rw [e, er, hsa]
        exact ⟨z, rfl, by show lo ≤ z; omega, by show z ≤ hi; omega⟩
      · rw [← hca]
        exact x7
    · rw [if_neg hca]
      exact x7
  · show gcpM h.2.2.2.2 a b sp.toNat dp.toNat n.toNat c k = _
    unfold gcpM
    rw [if_neg (fun hca => hk (by rw [hca, hta]; exact hl _))]
    exact hS.2.2.2.2.2 c k hk
  · show gcpM h.2.2.2.2 a b sp.toNat dp.toNat n.toNat c j = _
    unfold gcpM
    rw [if_neg hc]
end GGS
theorem gos_i {lo hi : Int} {ty : Nat → Nat} (h1 : lo ≤ 0) (h2 : 0 ≤ hi) : gOs (0, lo, hi) ty (.int 0) := ⟨0, rfl, h1, h2⟩
theorem gos_l {lo hi : Int} {ty : Nat → Nat} (h1 : lo ≤ 0) (h2 : 0 ≤ hi) : gOs (1, lo, hi) ty (.long 0) := ⟨0, rfl, h1, h2⟩
theorem gEl.gr {nk X l : List Nat} {ty ty2 : Nat → Nat} {h h2 : gH} {q : Nat} {r : gRg} {b lo hi : Int} (g : gSg nk X l ty h ty2 h2) (hJ : gJ rT 1027 ty h) (hT : rT q = some r) (hn : ¬ q ∈ nk) (hl : ¬ (1000 * q + 999) ∈ l) (hp : ∀ k, gpl rT q k = 1000 * q + 999) (e : gEl ty q b lo hi h) : gEl ty2 q b lo hi h2 := fun c z ht hc u v => e c z (g.old ht hn) (by
  have e1 := g.at (k := b.toNat) hJ (g.old ht hn) hT (by rw [hp]; exact hl) rfl
  rw [← e1]
  exact hc) u v
theorem gRow.gr {nk X l : List Nat} {ty ty2 : Nat → Nat} {h h2 : gH} {q : Nat} {r : gRg} {f : Nat → Int} (g : gSg nk X l ty h ty2 h2) (hJ : gJ rT 1027 ty h) (hT : rT q = some r) (hn : ¬ q ∈ nk) (hl : ¬ (1000 * q + 999) ∈ l) (e : gRow ty q f h) : gRow ty2 q f h2 := ⟨e.1, fun c ht i hi => by
  have e1 := g.at (k := i) hJ (g.old ht hn) hT (by rw [e.1]; exact hl) rfl
  rw [e1]
  exact e.2 c (g.old ht hn) i hi⟩
theorem gv_i {v : Value} {a b : Int} (e1 : v = .int (zi a)) (e2 : v = .int (zi b)) (ha : -2147483648 ≤ a ∧ a < 2147483648) (hb : -2147483648 ≤ b ∧ b < 2147483648) : a = b := by
  have e := e1.symm.trans e2
  injection e with e
  exact (zi_inj ha hb).mp e
theorem ad1 {ty : Nat → Nat} {f : Nat → Value} (e0 : gOs (rs1 0) ty (f 0)) (e1 : gOs (rs1 1) ty (f 1)) (e2 : gOs (rs1 2) ty (f 2)) (e3 : gOs (rs1 3) ty (f 3)) (e4 : gOs (rs1 4) ty (f 4)) (e5 : gOs (rs1 5) ty (f 5)) (e6 : gOs (rs1 6) ty (f 6)) (e7 : gOs (rs1 7) ty (f 7)) (e8 : gOs (rs1 8) ty (f 8)) (e9 : gOs (rs1 9) ty (f 9)) (e10 : gOs (rs1 10) ty (f 10)) (e11 : gOs (rs1 11) ty (f 11)) (e12 : gOs (rs1 12) ty (f 12)) (e13 : gOs (rs1 13) ty (f 13)) (e14 : gOs (rs1 14) ty (f 14)) (e15 : gOs (rs1 15) ty (f 15)) (e16 : gOs (rs1 16) ty (f 16)) (e17 : gOs (rs1 17) ty (f 17)) (e18 : gOs (rs1 18) ty (f 18)) (e19 : gOs (rs1 19) ty (f 19)) (e20 : gOs (rs1 20) ty (f 20)) (e21 : gOs (rs1 21) ty (f 21)) (e22 : gOs (rs1 22) ty (f 22)) (e23 : gOs (rs1 23) ty (f 23)) (e24 : gOs (rs1 24) ty (f 24)) (e25 : gOs (rs1 25) ty (f 25)) (e26 : gOs (rs1 26) ty (f 26)) (e27 : gOs (rs1 27) ty (f 27)) (e28 : gOs (rs1 28) ty (f 28)) (e29 : gOs (rs1 29) ty (f 29)) (e30 : gOs (rs1 30) ty (f 30)) (e31 : gOs (rs1 31) ty (f 31)) (e32 : gOs (rs1 32) ty (f 32)) (e33 : gOs (rs1 33) ty (f 33)) (e34 : gOs (rs1 34) ty (f 34)) (e35 : gOs (rs1 35) ty (f 35)) (e36 : gOs (rs1 36) ty (f 36)) (e37 : gOs (rs1 37) ty (f 37)) (e38 : gOs (rs1 38) ty (f 38)) (e39 : gOs (rs1 39) ty (f 39)) (e40 : gOs (rs1 40) ty (f 40)) (e41 : gOs (rs1 41) ty (f 41)) (e42 : gOs (rs1 42) ty (f 42)) (e43 : gOs (rs1 43) ty (f 43)) (e44 : gOs (rs1 44) ty (f 44)) (e45 : gOs (rs1 45) ty (f 45)) (e46 : gOs (rs1 46) ty (f 46)) (e47 : gOs (rs1 47) ty (f 47)) (e48 : gOs (rs1 48) ty (f 48)) (e49 : gOs (rs1 49) ty (f 49)) (e50 : gOs (rs1 50) ty (f 50)) (e51 : gOs (rs1 51) ty (f 51)) (e52 : gOs (rs1 52) ty (f 52)) (e53 : gOs (rs1 53) ty (f 53)) (e54 : gOs (rs1 54) ty (f 54)) (e55 : gOs (rs1 55) ty (f 55)) (e56 : gOs (rs1 56) ty (f 56)) (e57 : gOs (rs1 57) ty (f 57)) (e58 : gOs (rs1 58) ty (f 58)) (e59 : gOs (rs1 59) ty (f 59)) (e60 : gOs (rs1 60) ty (f 60)) (e61 : gOs (rs1 61) ty (f 61)) (e62 : gOs (rs1 62) ty (f 62)) (e63 : gOs (rs1 63) ty (f 63)) (e64 : gOs (rs1 64) ty (f 64)) (e65 : gOs (rs1 65) ty (f 65)) (e66 : gOs (rs1 66) ty (f 66)) (e67 : gOs (rs1 67) ty (f 67)) (e68 : gOs (rs1 68) ty (f 68)) (e69 : gOs (rs1 69) ty (f 69)) (e70 : gOs (rs1 70) ty (f 70)) (e71 : gOs (rs1 71) ty (f 71)) (e72 : gOs (rs1 72) ty (f 72)) (e73 : gOs (rs1 73) ty (f 73)) (e74 : gOs (rs1 74) ty (f 74)) (e75 : gOs (rs1 75) ty (f 75)) (e76 : gOs (rs1 76) ty (f 76)) : ∀ k, gOs (rs1 k) ty (f k) := by
  intro k
  match k with
  | 0 => exact e0
  | 1 => exact e1
  | 2 => exact e2
  | 3 => exact e3
  | 4 => exact e4
  | 5 => exact e5
  | 6 => exact e6
  | 7 => exact e7
  | 8 => exact e8
  | 9 => exact e9
  | 10 => exact e10
  | 11 => exact e11
  | 12 => exact e12
  | 13 => exact e13
  | 14 => exact e14
  | 15 => exact e15
  | 16 => exact e16
  | 17 => exact e17
  | 18 => exact e18
  | 19 => exact e19
  | 20 => exact e20
  | 21 => exact e21
  | 22 => exact e22
  | 23 => exact e23
  | 24 => exact e24
  | 25 => exact e25
  | 26 => exact e26
  | 27 => exact e27
  | 28 => exact e28
  | 29 => exact e29
  | 30 => exact e30
  | 31 => exact e31
  | 32 => exact e32
  | 33 => exact e33
  | 34 => exact e34
  | 35 => exact e35
  | 36 => exact e36
  | 37 => exact e37
  | 38 => exact e38
  | 39 => exact e39
  | 40 => exact e40
  | 41 => exact e41
  | 42 => exact e42
  | 43 => exact e43
  | 44 => exact e44
  | 45 => exact e45
  | 46 => exact e46
  | 47 => exact e47
  | 48 => exact e48
  | 49 => exact e49
  | 50 => exact e50
  | 51 => exact e51
  | 52 => exact e52
  | 53 => exact e53
  | 54 => exact e54
  | 55 => exact e55
  | 56 => exact e56
  | 57 => exact e57
  | 58 => exact e58
  | 59 => exact e59
  | 60 => exact e60
  | 61 => exact e61
  | 62 => exact e62
  | 63 => exact e63
  | 64 => exact e64
  | 65 => exact e65
  | 66 => exact e66
  | 67 => exact e67
  | 68 => exact e68
  | 69 => exact e69
  | 70 => exact e70
  | 71 => exact e71
  | 72 => exact e72
  | 73 => exact e73
  | 74 => exact e74
  | 75 => exact e75
  | 76 => exact e76
  | (n + 77) => trivial
theorem ad50 {ty : Nat → Nat} {f : Nat → Value} (e0 : gOs (rs50 0) ty (f 0)) (e1 : gOs (rs50 1) ty (f 1)) (e2 : gOs (rs50 2) ty (f 2)) (e3 : gOs (rs50 3) ty (f 3)) (e4 : gOs (rs50 4) ty (f 4)) (e5 : gOs (rs50 5) ty (f 5)) (e6 : gOs (rs50 6) ty (f 6)) : ∀ k, gOs (rs50 k) ty (f k) := by
  intro k
  match k with
  | 0 => exact e0
  | 1 => exact e1
  | 2 => exact e2
  | 3 => exact e3
  | 4 => exact e4
  | 5 => exact e5
  | 6 => exact e6
  | (n + 7) => trivial
theorem ad51 {ty : Nat → Nat} {f : Nat → Value} (e0 : gOs (rs51 0) ty (f 0)) (e1 : gOs (rs51 1) ty (f 1)) : ∀ k, gOs (rs51 k) ty (f k) := by
  intro k
  match k with
  | 0 => exact e0
  | 1 => exact e1
  | (n + 2) => trivial
theorem ad54 {ty : Nat → Nat} {f : Nat → Value} (e0 : gOs (rs54 0) ty (f 0)) (e1 : gOs (rs54 1) ty (f 1)) (e2 : gOs (rs54 2) ty (f 2)) (e3 : gOs (rs54 3) ty (f 3)) (e4 : gOs (rs54 4) ty (f 4)) (e5 : gOs (rs54 5) ty (f 5)) (e6 : gOs (rs54 6) ty (f 6)) (e7 : gOs (rs54 7) ty (f 7)) (e8 : gOs (rs54 8) ty (f 8)) (e9 : gOs (rs54 9) ty (f 9)) (e10 : gOs (rs54 10) ty (f 10)) (e11 : gOs (rs54 11) ty (f 11)) (e12 : gOs (rs54 12) ty (f 12)) (e13 : gOs (rs54 13) ty (f 13)) : ∀ k, gOs (rs54 k) ty (f k) := by
  intro k
  match k with
  | 0 => exact e0
  | 1 => exact e1
  | 2 => exact e2
  | 3 => exact e3
  | 4 => exact e4
  | 5 => exact e5
  | 6 => exact e6
  | 7 => exact e7
  | 8 => exact e8
  | 9 => exact e9
  | 10 => exact e10
  | 11 => exact e11
  | 12 => exact e12
  | 13 => exact e13
  | (n + 14) => trivial
theorem ad55 {ty : Nat → Nat} {f : Nat → Value} (e0 : gOs (rs55 0) ty (f 0)) (e1 : gOs (rs55 1) ty (f 1)) (e2 : gOs (rs55 2) ty (f 2)) (e3 : gOs (rs55 3) ty (f 3)) (e4 : gOs (rs55 4) ty (f 4)) (e5 : gOs (rs55 5) ty (f 5)) (e6 : gOs (rs55 6) ty (f 6)) (e7 : gOs (rs55 7) ty (f 7)) (e8 : gOs (rs55 8) ty (f 8)) (e9 : gOs (rs55 9) ty (f 9)) : ∀ k, gOs (rs55 k) ty (f k) := by
  intro k
  match k with
  | 0 => exact e0
  | 1 => exact e1
  | 2 => exact e2
  | 3 => exact e3
  | 4 => exact e4
  | 5 => exact e5
  | 6 => exact e6
  | 7 => exact e7
  | 8 => exact e8
  | 9 => exact e9
  | (n + 10) => trivial
theorem ad56 {ty : Nat → Nat} {f : Nat → Value} (e0 : gOs (rs56 0) ty (f 0)) (e1 : gOs (rs56 1) ty (f 1)) (e2 : gOs (rs56 2) ty (f 2)) (e3 : gOs (rs56 3) ty (f 3)) : ∀ k, gOs (rs56 k) ty (f k) := by
  intro k
  match k with
  | 0 => exact e0
  | 1 => exact e1
  | 2 => exact e2
  | 3 => exact e3
  | (n + 4) => trivial
theorem ad65 {ty : Nat → Nat} {f : Nat → Value} (e0 : gOs (rs65 0) ty (f 0)) (e1 : gOs (rs65 1) ty (f 1)) (e2 : gOs (rs65 2) ty (f 2)) (e3 : gOs (rs65 3) ty (f 3)) : ∀ k, gOs (rs65 k) ty (f k) := by
  intro k
  match k with
  | 0 => exact e0
  | 1 => exact e1
  | 2 => exact e2
  | 3 => exact e3
  | (n + 4) => trivial
theorem ad66 {ty : Nat → Nat} {f : Nat → Value} (e0 : gOs (rs66 0) ty (f 0)) (e1 : gOs (rs66 1) ty (f 1)) (e2 : gOs (rs66 2) ty (f 2)) (e3 : gOs (rs66 3) ty (f 3)) (e4 : gOs (rs66 4) ty (f 4)) (e5 : gOs (rs66 5) ty (f 5)) (e6 : gOs (rs66 6) ty (f 6)) (e7 : gOs (rs66 7) ty (f 7)) (e8 : gOs (rs66 8) ty (f 8)) (e9 : gOs (rs66 9) ty (f 9)) (e10 : gOs (rs66 10) ty (f 10)) (e11 : gOs (rs66 11) ty (f 11)) (e12 : gOs (rs66 12) ty (f 12)) (e13 : gOs (rs66 13) ty (f 13)) (e14 : gOs (rs66 14) ty (f 14)) : ∀ k, gOs (rs66 k) ty (f k) := by
  intro k
  match k with
  | 0 => exact e0
  | 1 => exact e1
  | 2 => exact e2
  | 3 => exact e3
  | 4 => exact e4
  | 5 => exact e5
  | 6 => exact e6
  | 7 => exact e7
  | 8 => exact e8
  | 9 => exact e9
  | 10 => exact e10
  | 11 => exact e11
  | 12 => exact e12
  | 13 => exact e13
  | 14 => exact e14
  | (n + 15) => trivial
theorem ad67 {ty : Nat → Nat} {f : Nat → Value} (e0 : gOs (rs67 0) ty (f 0)) (e1 : gOs (rs67 1) ty (f 1)) (e2 : gOs (rs67 2) ty (f 2)) (e3 : gOs (rs67 3) ty (f 3)) : ∀ k, gOs (rs67 k) ty (f k) := by
  intro k
  match k with
  | 0 => exact e0
  | 1 => exact e1
  | 2 => exact e2
  | 3 => exact e3
  | (n + 4) => trivial
theorem ad71 {ty : Nat → Nat} {f : Nat → Value} (e0 : gOs (rs71 0) ty (f 0)) (e1 : gOs (rs71 1) ty (f 1)) (e2 : gOs (rs71 2) ty (f 2)) (e3 : gOs (rs71 3) ty (f 3)) (e4 : gOs (rs71 4) ty (f 4)) (e5 : gOs (rs71 5) ty (f 5)) (e6 : gOs (rs71 6) ty (f 6)) (e7 : gOs (rs71 7) ty (f 7)) (e8 : gOs (rs71 8) ty (f 8)) (e9 : gOs (rs71 9) ty (f 9)) (e10 : gOs (rs71 10) ty (f 10)) (e11 : gOs (rs71 11) ty (f 11)) (e12 : gOs (rs71 12) ty (f 12)) (e13 : gOs (rs71 13) ty (f 13)) (e14 : gOs (rs71 14) ty (f 14)) : ∀ k, gOs (rs71 k) ty (f k) := by
  intro k
  match k with
  | 0 => exact e0
  | 1 => exact e1
  | 2 => exact e2
  | 3 => exact e3
  | 4 => exact e4
  | 5 => exact e5
  | 6 => exact e6
  | 7 => exact e7
  | 8 => exact e8
  | 9 => exact e9
  | 10 => exact e10
  | 11 => exact e11
  | 12 => exact e12
  | 13 => exact e13
  | 14 => exact e14
  | (n + 15) => trivial
theorem ad82 {ty : Nat → Nat} {f : Nat → Value} (e0 : gOs (rs82 0) ty (f 0)) (e1 : gOs (rs82 1) ty (f 1)) (e2 : gOs (rs82 2) ty (f 2)) (e3 : gOs (rs82 3) ty (f 3)) (e4 : gOs (rs82 4) ty (f 4)) (e5 : gOs (rs82 5) ty (f 5)) (e6 : gOs (rs82 6) ty (f 6)) (e7 : gOs (rs82 7) ty (f 7)) (e8 : gOs (rs82 8) ty (f 8)) (e9 : gOs (rs82 9) ty (f 9)) (e10 : gOs (rs82 10) ty (f 10)) (e11 : gOs (rs82 11) ty (f 11)) : ∀ k, gOs (rs82 k) ty (f k) := by
  intro k
  match k with
  | 0 => exact e0
  | 1 => exact e1
  | 2 => exact e2
  | 3 => exact e3
  | 4 => exact e4
  | 5 => exact e5
  | 6 => exact e6
  | 7 => exact e7
  | 8 => exact e8
  | 9 => exact e9
  | 10 => exact e10
  | 11 => exact e11
  | (n + 12) => trivial
theorem ad83 {ty : Nat → Nat} {f : Nat → Value} (e0 : gOs (rs83 0) ty (f 0)) (e1 : gOs (rs83 1) ty (f 1)) (e2 : gOs (rs83 2) ty (f 2)) (e3 : gOs (rs83 3) ty (f 3)) (e4 : gOs (rs83 4) ty (f 4)) (e5 : gOs (rs83 5) ty (f 5)) (e6 : gOs (rs83 6) ty (f 6)) (e7 : gOs (rs83 7) ty (f 7)) (e8 : gOs (rs83 8) ty (f 8)) (e9 : gOs (rs83 9) ty (f 9)) (e10 : gOs (rs83 10) ty (f 10)) (e11 : gOs (rs83 11) ty (f 11)) : ∀ k, gOs (rs83 k) ty (f k) := by
  intro k
  match k with
  | 0 => exact e0
  | 1 => exact e1
  | 2 => exact e2
  | 3 => exact e3
  | 4 => exact e4
  | 5 => exact e5
  | 6 => exact e6
  | 7 => exact e7
  | 8 => exact e8
  | 9 => exact e9
  | 10 => exact e10
  | 11 => exact e11
  | (n + 12) => trivial
theorem ad84 {ty : Nat → Nat} {f : Nat → Value} (e0 : gOs (rs84 0) ty (f 0)) (e1 : gOs (rs84 1) ty (f 1)) (e2 : gOs (rs84 2) ty (f 2)) (e3 : gOs (rs84 3) ty (f 3)) (e4 : gOs (rs84 4) ty (f 4)) (e5 : gOs (rs84 5) ty (f 5)) (e6 : gOs (rs84 6) ty (f 6)) (e7 : gOs (rs84 7) ty (f 7)) (e8 : gOs (rs84 8) ty (f 8)) (e9 : gOs (rs84 9) ty (f 9)) (e10 : gOs (rs84 10) ty (f 10)) (e11 : gOs (rs84 11) ty (f 11)) : ∀ k, gOs (rs84 k) ty (f k) := by
  intro k
  match k with
  | 0 => exact e0
  | 1 => exact e1
  | 2 => exact e2
  | 3 => exact e3
  | 4 => exact e4
  | 5 => exact e5
  | 6 => exact e6
  | 7 => exact e7
  | 8 => exact e8
  | 9 => exact e9
  | 10 => exact e10
  | 11 => exact e11
  | (n + 12) => trivial
theorem ad101 {ty : Nat → Nat} {f : Nat → Value} (e0 : gOs (rs101 0) ty (f 0)) (e1 : gOs (rs101 1) ty (f 1)) : ∀ k, gOs (rs101 k) ty (f k) := by
  intro k
  match k with
  | 0 => exact e0
  | 1 => exact e1
  | (n + 2) => trivial
theorem ad91 {ty : Nat → Nat} {f : Nat → Value} (e0 : gOs (rs91 0) ty (f 0)) (e1 : gOs (rs91 1) ty (f 1)) (e2 : gOs (rs91 2) ty (f 2)) (e3 : gOs (rs91 3) ty (f 3)) (e4 : gOs (rs91 4) ty (f 4)) (e5 : gOs (rs91 5) ty (f 5)) (e6 : gOs (rs91 6) ty (f 6)) (e7 : gOs (rs91 7) ty (f 7)) (e8 : gOs (rs91 8) ty (f 8)) : ∀ k, gOs (rs91 k) ty (f k) := by
  intro k
  match k with
  | 0 => exact e0
  | 1 => exact e1
  | 2 => exact e2
  | 3 => exact e3
  | 4 => exact e4
  | 5 => exact e5
  | 6 => exact e6
  | 7 => exact e7
  | 8 => exact e8
  | (n + 9) => trivial
theorem ad92 {ty : Nat → Nat} {f : Nat → Value} (e0 : gOs (rs92 0) ty (f 0)) (e1 : gOs (rs92 1) ty (f 1)) (e2 : gOs (rs92 2) ty (f 2)) (e3 : gOs (rs92 3) ty (f 3)) (e4 : gOs (rs92 4) ty (f 4)) (e5 : gOs (rs92 5) ty (f 5)) (e6 : gOs (rs92 6) ty (f 6)) (e7 : gOs (rs92 7) ty (f 7)) (e8 : gOs (rs92 8) ty (f 8)) : ∀ k, gOs (rs92 k) ty (f k) := by
  intro k
  match k with
  | 0 => exact e0
  | 1 => exact e1
  | 2 => exact e2
  | 3 => exact e3
  | 4 => exact e4
  | 5 => exact e5
  | 6 => exact e6
  | 7 => exact e7
  | 8 => exact e8
  | (n + 9) => trivial
theorem ad57 {ty : Nat → Nat} {f : Nat → Value} (e0 : gOs (rg57.2.2.2 0) ty (f 0)) (e1 : gOs (rg57.2.2.2 1) ty (f 1)) (e2 : gOs (rg57.2.2.2 2) ty (f 2)) (k : Nat) (hk : k < 3) : gOs (rg57.2.2.2 k) ty (f k) := by
  match k, hk with
  | 0, _ => exact e0
  | 1, _ => exact e1
  | 2, _ => exact e2
theorem ad68 {ty : Nat → Nat} {f : Nat → Value} (e0 : gOs (rg68.2.2.2 0) ty (f 0)) (e1 : gOs (rg68.2.2.2 1) ty (f 1)) (e2 : gOs (rg68.2.2.2 2) ty (f 2)) (e3 : gOs (rg68.2.2.2 3) ty (f 3)) (e4 : gOs (rg68.2.2.2 4) ty (f 4)) (e5 : gOs (rg68.2.2.2 5) ty (f 5)) (e6 : gOs (rg68.2.2.2 6) ty (f 6)) (e7 : gOs (rg68.2.2.2 7) ty (f 7)) (k : Nat) (hk : k < 8) : gOs (rg68.2.2.2 k) ty (f k) := by
  match k, hk with
  | 0, _ => exact e0
  | 1, _ => exact e1
  | 2, _ => exact e2
  | 3, _ => exact e3
  | 4, _ => exact e4
  | 5, _ => exact e5
  | 6, _ => exact e6
  | 7, _ => exact e7
theorem ad75 {ty : Nat → Nat} {f : Nat → Value} (e0 : gOs (rg75.2.2.2 0) ty (f 0)) (e1 : gOs (rg75.2.2.2 1) ty (f 1)) (k : Nat) (hk : k < 2) : gOs (rg75.2.2.2 k) ty (f k) := by
  match k, hk with
  | 0, _ => exact e0
  | 1, _ => exact e1
