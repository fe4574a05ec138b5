/-! THE REFERENCE: the reading of orders -/
theorem not_some {α : Type} {x : Option α} (h : ¬ x.isSome = true) : x = none := by
  cases x
  · rfl
  · exact absurd rfl h
theorem some_of {α : Type} {x : Option α} (h : x.isSome = true) : ∃ y, x = some y := by
  cases x
  · exact absurd h (by simp)
  · exact ⟨_, rfl⟩
