theorem x_ite {c A C : Prop} [Decidable c] : ((c → A) ∧ (¬ c → C)) ↔ (if c then A else C) := by
  by_cases h : c <;> simp [h]
theorem x_itr {c A C : Prop} [Decidable c] : (if c then A else C) ↔ ((c → A) ∧ (¬ c → C)) := x_ite.symm
