theorem b2i_c {P Q : Prop} [Decidable P] [Decidable Q] (h : P ↔ Q) : b2i P = b2i Q := by
  by_cases p : P
  · rw [b2i_t p, b2i_t (h.mp p)]
  · rw [b2i_f p, b2i_f (fun q => p (h.mpr q))]
theorem mulsg {a b : Int} (hb : 0 ≤ b) : (a < 0 → a * b ≤ 0) ∧ (0 ≤ a → 0 ≤ a * b) := ⟨fun h => Int.mul_nonpos_of_nonpos_of_nonneg (by omega) hb, fun h => Int.mul_nonneg h hb⟩
