/-! THE REFERENCE: what every change keeps -/
theorem PdOk.congr {sg ro : Nat → Int32} {k q : Nat} (h : PdOk sg k) (e : ∀ j, j < 6 → ro (86 + 6 * q + j) = sg (86 + 6 * k + j)) : PdOk ro q := by
  obtain ⟨d1, d2, d3, d4, d5, d6⟩ := h
  have e0 : ro (86 + 6 * q) = sg (86 + 6 * k) := e 0 (by omega)
  refine ⟨by rw [e0]; exact d1, by rw [e 1 (by omega)]; exact d2, by rw [e 2 (by omega)]; exact d3, by rw [e 3 (by omega)]; exact d4, by rw [e 4 (by omega)]; exact d5, by rw [e 5 (by omega)]; exact d6⟩
theorem GgOk.congr {sg ro : Nat → Int32} {g : Nat} (h : GgOk sg g) (e : ∀ j, 122 + 62 * g ≤ j → j < 184 + 62 * g → ro j = sg j) : GgOk ro g := by
  obtain ⟨h1, m, h2, h3, h4⟩ := h
  exact ⟨by rw [e _ (by omega) (by omega)]; exact h1, m, h2, by rw [e _ (by omega) (by omega)]; exact h3, fun i hi => by rw [e _ (by omega) (by omega)]; exact h4 i hi⟩
theorem cel_of {sg ro : Nat → Int32} {k q : Nat} (e : ro (86 + 6 * q) = sg (86 + 6 * k)) : cel ro q = cel sg k := by
  unfold cel
  rw [e]
theorem Ok0.klevel {sg : Nat → Int32} {np ng t : Nat} {v : Int32} (h : Ok0 sg np ng) (ht : t < 40) : Ok0 (up sg (6 + t) v) np ng := h.congr fun j hj => up_n _ _ (by omega)
theorem Ok0.kset {sg : Nat → Int32} {np ng k : Nat} {v : Int32} (h : Ok0 sg np ng) (hk : k < 3) (hs : StOk (up sg k v)) : Ok0 (up sg k v) np ng := by
  obtain ⟨⟨a1, a2⟩, ⟨b1, b2⟩, hp, hl, hg, hst⟩ := h
  have e : ∀ j, 4 ≤ j → up sg k v j = sg j := fun j hj => up_n _ _ (by omega)
  refine ⟨⟨by rw [e _ (by omega)]; exact a1, a2⟩, ⟨by rw [e _ (by omega)]; exact b1, b2⟩, fun q hq => (hp q hq).congr fun j _ => e _ (by omega), fun i j hi hj => ?_, fun g hgn => (hg g hgn).congr fun j h1 _ => e _ (by omega), hs⟩
  rw [cel_of (e (86 + 6 * i) (by omega)), cel_of (e (86 + 6 * j) (by omega))]
  exact hl i j hi hj
theorem Ok0.kagain {sg : Nat → Int32} {np ng k : Nat} (h : Ok0 sg np ng) (hk : k < np) : Ok0 (up sg (86 + 6 * k + 5) 1) np ng := by
  obtain ⟨⟨a1, a2⟩, ⟨b1, b2⟩, hp, hl, hg, hst⟩ := h
  have e : ∀ j, j ≠ 86 + 6 * k + 5 → up sg (86 + 6 * k + 5) 1 j = sg j := fun j hj => up_n _ _ hj
  refine ⟨⟨by rw [e _ (by omega)]; exact a1, a2⟩, ⟨by rw [e _ (by omega)]; exact b1, b2⟩, fun q hq => ?_, fun i j hi hj => ?_, fun g hgn => (hg g hgn).congr fun j h1 _ => e _ (by omega), by rw [show up sg (86 + 6 * k + 5) 1 0 = sg 0 from e _ (by omega)]; exact hst.1, by rw [e _ (by omega)]; exact hst.2.1, by rw [e _ (by omega)]; exact hst.2.2⟩
  · obtain ⟨d1, d2, d3, d4, d5, d6⟩ := hp q hq
    refine ⟨by rw [e _ (by omega)]; exact d1, by rw [e _ (by omega)]; exact d2, by rw [e _ (by omega)]; exact d3, by rw [e _ (by omega)]; exact d4, by rw [e _ (by omega)]; exact d5, ?_⟩
    by_cases hqk : q = k
    · subst hqk
      exact Or.inr (up_s _ _ _)
    · rw [e _ (by omega)]
      exact d6
  · rw [cel_of (e (86 + 6 * i) (by omega)), cel_of (e (86 + 6 * j) (by omega))]
    exact hl i j hi hj
theorem Ok0.kcg {sg : Nat → Int32} {np ng c : Nat} (h : Ok0 sg np ng) (hc : c < 40) (h4 : ng < 4) : Ok0 (cgF sg ng (nI c)) np (ng + 1) := by
  obtain ⟨⟨a1, a2⟩, ⟨b1, b2⟩, hp, hl, hg, hst⟩ := h
  have e : ∀ j, j ≠ 5 → j < 122 + 62 * ng → cgF sg ng (nI c) j = sg j := fun j hj h1 => by
    rw [cgF, up_n _ _ hj, cgN, if_neg (by omega)]
  refine ⟨⟨by rw [e _ (by omega) (by omega)]; exact a1, a2⟩, ⟨by rw [cgF, up_s], by omega⟩, fun q hq => (hp q hq).congr fun j _ => e _ (by omega) (by omega), fun i j hi hj => ?_, fun g hgn => ?_, by rw [show cgF sg ng (nI c) 0 = sg 0 from e _ (by omega) (by omega)]; exact hst.1, by rw [e _ (by omega) (by omega)]; exact hst.2.1, by rw [e _ (by omega) (by omega)]; exact hst.2.2⟩
  · rw [cel_of (e (86 + 6 * i) (by omega) (by omega)), cel_of (e (86 + 6 * j) (by omega) (by omega))]
    exact hl i j hi hj
  · by_cases hgq : g = ng
    · subst hgq
      refine ⟨⟨c, hc, ?_⟩, 0, by omega, ?_, fun i hi => absurd hi (by omega)⟩
      · rw [cgF, up_n _ _ (by omega), cgN, if_pos (by omega), if_pos rfl]
      · rw [cgF, up_n _ _ (by omega), cgN, if_pos (by omega), if_neg (by omega)]
        rfl
    · exact (hg g (by omega)).congr fun j h1 h2 => e _ (by omega) (by omega)
theorem lfF_at {sg : Nat → Int32} {np k q j : Nat} (hj : j < 6) (hq : q + 1 < np) : lfF sg np k (86 + 6 * q + j) = sg (86 + 6 * (if q < k then q else q + 1) + j) := by
  unfold lfF lfN
  by_cases h : q < k
  · rw [if_neg (by omega), up_n _ _ (by omega), if_pos h]
  · rw [if_pos (by omega), up_n _ _ (by omega), if_neg h, show 86 + 6 * q + j + 6 = 86 + 6 * (q + 1) + j by omega]
theorem lfF_no {sg : Nat → Int32} {np k j : Nat} (hj : j ≠ 4) (h : j < 86 ∨ 122 ≤ j) (h6 : np ≤ 6) : lfF sg np k j = sg j := by
  unfold lfF lfN
  rw [if_neg (by omega), up_n _ _ hj]
theorem Ok0.klf {sg : Nat → Int32} {np ng k : Nat} (h : Ok0 sg np ng) (hk : k < np) : Ok0 (lfF sg np k) (np - 1) ng := by
  obtain ⟨⟨a1, a2⟩, ⟨b1, b2⟩, hp, hl, hg, hst⟩ := h
  refine ⟨⟨by rw [lfF, lfN, if_neg (by omega), up_s], by omega⟩, ⟨by rw [lfF_no (by omega) (by omega) a2]; exact b1, b2⟩, fun q hq => (hp (if q < k then q else q + 1) (by split <;> omega)).congr fun j hj => lfF_at hj (by omega), fun i j hi hj => ?_, fun g hgn => (hg g hgn).congr fun j h1 _ => lfF_no (by omega) (by omega) a2, by rw [show lfF sg np k 0 = sg 0 from lfF_no (by omega) (by omega) a2]; exact hst.1, by rw [lfF_no (by omega) (by omega) a2]; exact hst.2.1, by rw [lfF_no (by omega) (by omega) a2]; exact hst.2.2⟩
  rw [cel_of (lfF_at (j := 0) (by omega) (by omega)), cel_of (lfF_at (j := 0) (by omega) (by omega))]
  exact hl _ _ (by split <;> split <;> omega) (by split <;> omega)
theorem psn_up (sg : Nat → Int32) (c : Int32) : ∀ n q, psn sg c n ≤ q → q < n → c < sg (86 + 6 * q)
  | 0, q, _, h => absurd h (by omega)
  | n + 1, q, h1, h2 => by
    unfold psn at h1
    by_cases h : c < sg (86 + 6 * n)
    · rw [if_pos h] at h1
      by_cases e : q = n
      · rw [e]
        exact h
      · exact psn_up sg c n q h1 (by omega)
    · rw [if_neg h] at h1
      omega
theorem psn_dn (sg : Nat → Int32) (c : Int32) : ∀ n, 0 < psn sg c n → ¬ c < sg (86 + 6 * (psn sg c n - 1))
  | 0, h => absurd h (by simp [psn])
  | n + 1, h => by
    unfold psn at h ⊢
    by_cases h1 : c < sg (86 + 6 * n)
    · rw [if_pos h1] at h ⊢
      exact psn_dn sg c n h
    · rw [if_neg h1]
      exact h1
theorem rkU_no {sg : Nat → Int32} {c : Int32} : ∀ {m : Nat}, m ≤ 6 → rkU sg c m = -6 → ∀ k, k < m → ¬ sg (86 + 6 * k) = c
  | 0, _, _, k, hk => absurd hk (by omega)
  | m + 1, h6, h, k, hk => by
    unfold rkU at h
    by_cases e : sg (86 + 6 * m) = c
    · rw [if_pos e] at h
      exact absurd h (by intro q; have := (congrArg Int32.toInt q); rw [nI_toInt (by omega)] at this; rw [show (-6 : Int32).toInt = -6 by decide] at this; omega)
    · rw [if_neg e] at h
      by_cases q : k = m
      · rw [q]
        exact e
      · exact rkU_no (by omega) h k (by omega)
theorem rkU_at {sg : Nat → Int32} {c : Int32} : ∀ {m k : Nat}, m ≤ 6 → rkU sg c m = nI k → k < 6 → sg (86 + 6 * k) = c ∧ k < m
  | 0, k, _, h, hk => by
    unfold rkU at h
    exact absurd h (by intro q; have := (congrArg Int32.toInt q); rw [nI_toInt (by omega)] at this; rw [show (-6 : Int32).toInt = -6 by decide] at this; omega)
  | m + 1, k, h6, h, hk => by
    unfold rkU at h
    by_cases e : sg (86 + 6 * m) = c
    · rw [if_pos e] at h
      have := (nI_eq (by omega) (by omega)).mp h
      subst this
      exact ⟨e, by omega⟩
    · rw [if_neg e] at h
      have := rkU_at (by omega) h hk
      exact ⟨this.1, by omega⟩
theorem rkU_none {sg : Nat → Int32} {c : Int32} : ∀ {m : Nat}, (∀ k, k < m → ¬ sg (86 + 6 * k) = c) → rkU sg c m = -6
  | 0, _ => rfl
  | m + 1, h => by
    unfold rkU
    rw [if_neg (h m (by omega))]
    exact rkU_none fun k hk => h k (by omega)
def nwP (c so he pe f : Int32) : Nat → Int32
  | 0 => c
  | 1 => so
  | 2 => he
  | 3 => pe
  | 4 => f
  | _ => 1
theorem pf6_in {ro : Nat → Int32} {k j : Nat} {c so he pe f : Int32} (hj : j < 6) : pf6 ro k c so he pe f (86 + 6 * k + j) = nwP c so he pe f j := by
  unfold pf6
  rcases (by omega : j = 0 ∨ j = 1 ∨ j = 2 ∨ j = 3 ∨ j = 4 ∨ j = 5) with h | h | h | h | h | h <;> subst h
  · rw [up_n _ _ (by omega), up_n _ _ (by omega), up_n _ _ (by omega), up_n _ _ (by omega), up_n _ _ (by omega), up_s]; rfl
  · rw [up_n _ _ (by omega), up_n _ _ (by omega), up_n _ _ (by omega), up_n _ _ (by omega), up_s]; rfl
  · rw [up_n _ _ (by omega), up_n _ _ (by omega), up_n _ _ (by omega), up_s]; rfl
  · rw [up_n _ _ (by omega), up_n _ _ (by omega), up_s]; rfl
  · rw [up_n _ _ (by omega), up_s]; rfl
  · rw [up_s]; rfl
theorem pf6_no {ro : Nat → Int32} {k i : Nat} {c so he pe f : Int32} (h : i < 86 + 6 * k ∨ 92 + 6 * k ≤ i) : pf6 ro k c so he pe f i = ro i := by
  unfold pf6
  rw [up_n _ _ (by omega), up_n _ _ (by omega), up_n _ _ (by omega), up_n _ _ (by omega), up_n _ _ (by omega), up_n _ _ (by omega)]
theorem inF_at {sg : Nat → Int32} {n q j : Nat} {c so he pe f : Int32} (hj : j < 6) (hq : q ≤ n) : inF sg n c so he pe f (86 + 6 * q + j) = if q = psn sg c n then nwP c so he pe f j else sg (86 + 6 * (if q < psn sg c n then q else q - 1) + j) := by
  unfold inF
  rw [up_n _ _ (by omega)]
  by_cases h : q = psn sg c n
  · rw [if_pos h, h, pf6_in hj]
  · rw [if_neg h, pf6_no (by omega), shN]
    by_cases h2 : q < psn sg c n
    · rw [if_neg (by omega), if_pos h2]
    · rw [if_pos (by omega), if_neg h2, show 86 + 6 * q + j - 6 = 86 + 6 * (q - 1) + j by omega]
theorem inF_no {sg : Nat → Int32} {n j : Nat} {c so he pe f : Int32} (hj : j ≠ 4) (h : j < 86 ∨ 122 ≤ j) (h5 : n ≤ 5) : inF sg n c so he pe f j = sg j := by
  have := psn_le sg c n
  unfold inF
  rw [up_n _ _ hj, pf6_no (by omega), shN, if_neg (by omega)]
def RcOk (c so he pe f : Int32) : Prop := (∃ k, k < 36 ∧ c = nI k) ∧ (∃ s, s < 4 ∧ so = nI s) ∧ (-999 ≤ he ∧ he ≤ 999) ∧ (∃ p, 1 ≤ p ∧ p ≤ 60 ∧ pe = nI p) ∧ (∃ q, q < 60 ∧ f = nI q)
theorem Ok0.kin {sg : Nat → Int32} {n ng : Nat} {c so he pe f : Int32} (h : Ok0 sg n ng) (h5 : n ≤ 5) (hr : RcOk c so he pe f) (hno : ∀ k, k < n → ¬ sg (86 + 6 * k) = c) : Ok0 (inF sg n c so he pe f) (n + 1) ng := by
  obtain ⟨⟨a1, a2⟩, ⟨b1, b2⟩, hp, hl, hg, hst⟩ := h
  have hm := psn_le sg c n
  obtain ⟨cn, hc36, hc⟩ := hr.1
  have cell : ∀ k, k < n → ∃ x, x < 36 ∧ sg (86 + 6 * k) = nI x ∧ cel sg k = x := fun k hk => by
    obtain ⟨⟨x, x1, x2⟩, -⟩ := hp k hk
    exact ⟨x, x1, x2, by rw [cel, x2, nI_clamp (by omega)]⟩
  have up1 : ∀ q, psn sg c n ≤ q → q < n → cn < cel sg q := fun q h1 h2 => by
    have := psn_up sg c n q h1 h2
    obtain ⟨x, x1, x2, x3⟩ := cell q h2
    rw [x2, hc] at this
    rw [x3]
    exact (nI_ltI (by omega) (by omega)).mp this
  have dn1 : ∀ q, q < psn sg c n → cel sg q < cn := fun q h1 => by
    have h2 := psn_dn sg c n (by omega)
    obtain ⟨x, x1, x2, x3⟩ := cell (psn sg c n - 1) (by omega)
    have h3 := hno (psn sg c n - 1) (by omega)
    rw [x2, hc] at h2 h3
    have h4 : x < cn := by
      have : ¬ cn < x := fun e => h2 (nI_lt e (by omega))
      have : ¬ x = cn := fun e => h3 (by rw [e])
      omega
    by_cases e : q = psn sg c n - 1
    · rw [e, x3]
      exact h4
    · have := hl q (psn sg c n - 1) (by omega) (by omega)
      rw [x3] at this
      omega
  have cl : ∀ q, q ≤ n → cel (inF sg n c so he pe f) q = if q = psn sg c n then cn else cel sg (if q < psn sg c n then q else q - 1) := fun q hq => by
    have e := inF_at (sg := sg) (n := n) (q := q) (j := 0) (c := c) (so := so) (he := he) (pe := pe) (f := f) (by omega) hq
    rw [cel, show 86 + 6 * q = 86 + 6 * q + 0 from rfl, e]
    by_cases h : q = psn sg c n
    · rw [if_pos h, if_pos h]
      show c.toNatClampNeg = cn
      rw [hc, nI_clamp (by omega)]
    · rw [if_neg h, if_neg h]
      rfl
  refine ⟨⟨by rw [inF, up_s], by omega⟩, ⟨by rw [inF_no (by omega) (by omega) h5]; exact b1, b2⟩, fun q hq => ?_, fun i j hi hj => ?_, fun g hgn => (hg g hgn).congr fun j h1 _ => inF_no (by omega) (by omega) h5, by rw [show inF sg n c so he pe f 0 = sg 0 from inF_no (by omega) (by omega) h5]; exact hst.1, by rw [inF_no (by omega) (by omega) h5]; exact hst.2.1, by rw [inF_no (by omega) (by omega) h5]; exact hst.2.2⟩
  · by_cases h : q = psn sg c n
    · have e : ∀ j, j < 6 → inF sg n c so he pe f (86 + 6 * q + j) = nwP c so he pe f j := fun j hj => by rw [inF_at hj (by omega), if_pos h]
      obtain ⟨r1, r2, r3, r4, r5⟩ := hr
      exact ⟨by rw [show inF sg n c so he pe f (86 + 6 * q) = c from e 0 (by omega)]; exact r1, by rw [e 1 (by omega)]; exact r2, by rw [e 2 (by omega)]; exact r3, by rw [e 3 (by omega)]; exact r4, by rw [e 4 (by omega)]; exact r5, by rw [e 5 (by omega)]; exact Or.inr rfl⟩
    · exact (hp (if q < psn sg c n then q else q - 1) (by split <;> omega)).congr fun j hj => by rw [inF_at hj (by omega), if_neg h]
  · rw [cl i (by omega), cl j (by omega)]
    by_cases h1 : i = psn sg c n
    · rw [if_pos h1, if_neg (by omega), if_neg (by omega)]
      exact up1 _ (by omega) (by omega)
    · rw [if_neg h1]
      by_cases h2 : j = psn sg c n
      · rw [if_pos h2, if_pos (by omega)]
        exact dn1 _ (by omega)
      · rw [if_neg h2]
        exact hl _ _ (by split <;> split <;> omega) (by split <;> omega)
