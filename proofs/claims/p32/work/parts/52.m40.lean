/-- the fresh object keeps the bounds -/
theorem Ok_0 : Ok row0 := by
  refine ⟨0, 0, 0, by omega, by omega, by omega, rfl, rfl, rfl, fun j hj => ?_, fun v hv => absurd hv (by omega), fun v _ hv k hk => r0_hi (by omega), fun v hv => absurd hv (by omega), fun l _ hl k hk => r0_hi (by omega), fun v hv => absurd hv (by omega), fun o _ ho k hk => r0_hi (by omega), fun d hd => ?_⟩
  · rcases (show j = 0 ∨ j = 1 ∨ j = 2 ∨ j = 3 ∨ j = 4 ∨ j = 5 ∨ j = 6 by omega) with rfl | rfl | rfl | rfl | rfl | rfl | rfl <;> decide
  · have z : ∀ k, 7 ≤ k → (row0 k).toInt = 0 := fun k hk => by rw [r0_hi hk]; rfl
    have g : ∀ n, gsum row0 d n = 0 := fun n => by
      induction n with
      | zero => rfl
      | succ n ih =>
        show gsum row0 d n + _ = 0
        rw [ih]
        split
        · rw [show (vt row0 n 2).toInt = 0 from z (19 + 4 * n + 2) (by omega)]
          rfl
        · rfl
    refine ⟨?_, ?_, fun l hl => ?_⟩
    · rw [z _ (by omega)]
      omega
    · rw [z _ (by omega)]
      omega
    · rw [g, show (ltx row0 l (2 + d)).toInt = 0 from z _ (by omega), show (ltx row0 l (6 + d)).toInt = 0 from z _ (by omega), z _ (by omega)]
      omega
theorem TOk_0 {g : Nat → Int32} : TOk 0 g := ⟨by omega, fun p hp => absurd hp (by omega)⟩
