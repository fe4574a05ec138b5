/-! THE REFERENCE: steps; states moved and recorded -/
def hsh (h : Nat → Int32) (k : Nat) : Nat → Int32 := fun j => if j < k then h (j + 370) else h j
theorem hsh_s (h : Nat → Int32) (k : Nat) : up (hsh h k) k (hsh h k (k + 370)) = hsh h (k + 1) := by
  funext j
  by_cases hj : j = k
  · subst hj
    rw [up_s, hsh, hsh, if_neg (by omega), if_pos (by omega)]
  · rw [up_n _ _ hj]
    by_cases h2 : j < k
    · rw [hsh, hsh, if_pos h2, if_pos (by omega)]
    · rw [hsh, hsh, if_neg h2, if_neg (by omega)]
