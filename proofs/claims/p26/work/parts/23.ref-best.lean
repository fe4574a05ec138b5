/-! THE REFERENCE: the best period; undo, save, restore; signs put -/
/-- the farthest level of a cell in i steps -/
def pkN (np ng c : Nat) (sg : Nat → Int32) : Nat → Int32
  | 0 => 0
  | i + 1 => if szI (psF np ng sg (i + 1) (6 + c)) ≤ pkN np ng c sg i then pkN np ng c sg i else szI (psF np ng sg (i + 1) (6 + c))
/-- the best of the first p periods, and how far it takes the cell -/
def bpN (np ng k c m : Nat) (sg : Nat → Int32) : Nat → Int32 × Int32
  | 0 => (-6, -1)
  | p + 1 => if pkN np ng c (up sg (86 + 6 * k + 3) (nI (p + 1))) m ≤ (bpN np ng k c m sg p).2 then bpN np ng k c m sg p else (nI (p + 1), pkN np ng c (up sg (86 + 6 * k + 3) (nI (p + 1))) m)
theorem Ok0.period {sg : Nat → Int32} {np ng k p : Nat} (h : Ok0 sg np ng) (hk : k < np) (h1 : 1 ≤ p) (h2 : p ≤ 60) : Ok0 (up sg (86 + 6 * k + 3) (nI p)) np ng := by
  obtain ⟨⟨a1, a2⟩, ⟨b1, b2⟩, hp, hl, hg, c1, c2, c3⟩ := h
  have e : ∀ j, j ≠ 86 + 6 * k + 3 → up sg (86 + 6 * k + 3) (nI p) j = sg j := fun j hj => up_n _ _ hj
  refine ⟨⟨by rw [e _ (by omega)]; exact a1, a2⟩, ⟨by rw [e _ (by omega)]; exact b1, b2⟩, fun q hq => ?_, fun i j hi hj => ?_, fun g hgn => ?_, by rw [e _ (by omega)]; exact c1, by rw [e _ (by omega)]; exact c2, by rw [e _ (by omega)]; exact c3⟩
  · obtain ⟨d1, d2, d3, d4, d5, d6⟩ := hp q hq
    refine ⟨by rw [e _ (by omega)]; exact d1, by rw [e _ (by omega)]; exact d2, by rw [e _ (by omega)]; exact d3, ?_, by rw [e _ (by omega)]; exact d5, by rw [e _ (by omega)]; exact d6⟩
    by_cases hqk : q = k
    · subst hqk
      exact ⟨p, h1, h2, up_s _ _ _⟩
    · rw [e _ (by omega)]
      exact d4
  · have hl' := hl i j hi hj
    unfold cel at hl' ⊢
    rw [e _ (by omega), e _ (by omega)]
    exact hl'
  · obtain ⟨h1, m, h2, h3, h4⟩ := hg g hgn
    have h4' := b2
    exact ⟨by rw [e _ (by omega)]; exact h1, m, h2, by rw [e _ (by omega)]; exact h3, fun i hi => by rw [e _ (by omega)]; exact h4 i hi⟩
theorem num_in {v : Int32} (h : 1 ≤ v ∧ v ≤ 99) : ∃ k, k < 100 ∧ v = nI k := by
  have e1 : (1 : Int32).toInt = 1 := by decide
  have e0 : (0 : Int32).toInt = 0 := by decide
  have h0 : ¬ v < 0 := by
    have := h.1
    simp only [Int32.le_iff_toInt_le, Int32.lt_iff_toInt_lt] at *
    omega
  obtain ⟨j, h1, h2⟩ := nI_of2 (M := 99) (n := 99) (by decide) h0 h.2
  exact ⟨j, by omega, h2⟩
