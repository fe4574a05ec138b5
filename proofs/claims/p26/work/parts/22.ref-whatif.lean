/-! THE REFERENCE: what if; undo, save, restore -/
/-- a step leaves what lies behind a tank's numbers -/
theorem paN_hi {sg : Nat → Int32} {np ng : Nat} (h : Ok0 sg np ng) {j : Nat} (hj : 370 ≤ j) : ∀ {k : Nat}, k ≤ np → paN sg k j = sg j
  | 0, _ => rfl
  | k + 1, hk => by
    have h6 := h.1.2
    have h1 := h.kpaN k (by omega)
    obtain ⟨⟨c, h36, hc⟩, -⟩ := h1.pds k (by omega)
    show pa1 (paN sg k) k j = _
    rw [pa1_same hc h36 (by omega) (by omega)]
    exact paN_hi h hj (by omega)
theorem ntN_hi {sg : Nat → Int32} {np ng : Nat} (h : Ok0 sg np ng) (hb : BdL sg) {j : Nat} (hj : 370 ≤ j) : ∀ {g : Nat}, g ≤ ng → ntN sg g j = sg j
  | 0, _ => rfl
  | g + 1, hg => by
    have h4 := h.2.1.2
    have h1 := (h.kntN hb g (by omega)).1
    obtain ⟨-, m, hm, hn⟩ := h1.ggs g (by omega)
    show nt1 (ntN sg g) g j = _
    rw [nt1_same hm hn (by omega)]
    exact ntN_hi h hb hj (by omega)
theorem stF_hi {sg : Nat → Int32} {np ng : Nat} (h : Ok0 sg np ng) {j : Nat} (hj : 370 ≤ j) : stF np ng sg j = sg j := by
  unfold stF
  rw [ntN_hi h.kstM.1 h.kstM.2 hj (Nat.le_refl _), up_n _ _ (by omega), stM, bcN_same (by omega), swB_same (by omega), paN_hi h hj (Nat.le_refl _)]
theorem psF_hi {sg : Nat → Int32} {np ng : Nat} (h : Ok0 sg np ng) {j : Nat} (hj : 370 ≤ j) : ∀ i, psF np ng sg i j = sg j
  | 0 => rfl
  | i + 1 => (stF_hi (h.kpsF i) hj).trans (psF_hi h hj i)
/-- a state that was kept comes back -/
theorem kept_back {M : Mm} {sg ro X : Nat → Int32} (hs : M 236 = sg) (hX : X = va_cpy sg (M 237) 0 0 370) (hr : ∀ j, 370 ≤ j → ro j = sg j) : up (up (up M 237 X) 236 ro) 236 (va_cpy X ro 0 0 370) = up M 237 X := by
  have e : va_cpy X ro 0 0 370 = sg := by
    funext j
    unfold va_cpy
    split
    · rename_i h
      rw [hX, va_cpy, if_pos (by omega)]
      simp
    · rename_i h
      exact hr j (by omega)
  rw [e, up_up]
  funext a
  by_cases h : a = 236
  · subst h
    rw [up_s, up_n _ _ (by decide), hs]
  · rw [up_n _ _ h]
/-- the first of the steps from i on at which g is no longer below far, among f more; -6 if there is none -/
def rcF (g : Nat → Int32) (far : Int32) : Nat → Nat → Int32
  | 0, i => if g i < far then -6 else nI i
  | f + 1, i => if g i < far then rcF g far f (i + 1) else nI i
def ccF (g : Nat → Int32) : Nat → Nat → Int32
  | 0, i => if 0 < g i then -6 else nI i
  | f + 1, i => if 0 < g i then ccF g f (i + 1) else nI i
theorem Ok0.none {sg : Nat → Int32} {np ng : Nat} (h : Ok0 sg np ng) : Ok0 (up sg 4 0) 0 ng := by
  obtain ⟨-, ⟨b1, b2⟩, -, -, hg, c1, c2, c3⟩ := h
  refine ⟨⟨up_s _ _ _, by omega⟩, ⟨by rw [up_n _ _ (by omega)]; exact b1, b2⟩, fun k hk => absurd hk (by omega), fun i j _ hj => absurd hj (by omega), fun g hgn => ?_, by rw [up_n _ _ (by omega)]; exact c1, by rw [up_n _ _ (by omega)]; exact c2, by rw [up_n _ _ (by omega)]; exact c3⟩
  obtain ⟨h1, m, h2, h3, h4⟩ := hg g hgn
  exact ⟨by rw [up_n _ _ (by omega)]; exact h1, m, h2, by rw [up_n _ _ (by omega)]; exact h3, fun i hi => by rw [up_n _ _ (by omega)]; exact h4 i hi⟩
