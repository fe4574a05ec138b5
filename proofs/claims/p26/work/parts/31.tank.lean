/-! A TANK OF THE CLASS AND A STATE OF THE REFERENCE -/
/-- a gauge of the tank at b is gauge g of the state -/
def GkO (M : Mm) (b g : Nat) (sg : Nat → Int32) : Prop := M (b + 12 + 2 * g) 1 = sg (122 + 62 * g) ∧ M (b + 12 + 2 * g) 2 = sg (122 + 62 * g + 1) ∧ ∃ x, x < 60 ∧ M (b + 12 + 2 * g) 3 = nI x ∧ ∀ m, m ≤ 60 → sg (122 + 62 * g + 1) = nI m → ∀ ago, ago < m → M (b + 13 + 2 * g) ((x + 59 - ago) % 60) = sg (122 + 62 * g + 2 + (m - 1 - ago))
def Tk (M : Mm) (R : Rm) (b np ng : Nat) (sg : Nat → Int32) : Prop := (∀ i, i < 3 → M (b + 1) i = sg i) ∧ (M b 7 = sg 3 ∧ M b 5 = sg 4 ∧ M b 6 = sg 5) ∧ (∀ c, c < 40 → M (b + 2) c = sg (6 + c)) ∧ (∀ c, c < 40 → M (b + 3) c = sg (46 + c)) ∧ (∀ k, k < np → ∀ j, j < 6 → M (R (b + 4) k) j = sg (86 + 6 * k + j)) ∧ ∀ g, g < ng → GkO M b g sg
section
variable {M M' : Mm} {R R' : Rm} {b np ng : Nat} {sg ro : Nat → Int32}
theorem Tk.cset (h : Tk M R b np ng sg) {i : Nat} (hi : i < 3) : M (b + 1) i = sg i := h.1 i hi
theorem Tk.cstp (h : Tk M R b np ng sg) : M b 7 = sg 3 := h.2.1.1
theorem Tk.cnp (h : Tk M R b np ng sg) : M b 5 = sg 4 := h.2.1.2.1
theorem Tk.cng (h : Tk M R b np ng sg) : M b 6 = sg 5 := h.2.1.2.2
theorem Tk.clev (h : Tk M R b np ng sg) {c : Nat} (hc : c < 40) : M (b + 2) c = sg (6 + c) := h.2.2.1 c hc
theorem Tk.cspd (h : Tk M R b np ng sg) {c : Nat} (hc : c < 40) : M (b + 3) c = sg (46 + c) := h.2.2.2.1 c hc
theorem Tk.cpad (h : Tk M R b np ng sg) {k j : Nat} (hk : k < np) (hj : j < 6) : M (R (b + 4) k) j = sg (86 + 6 * k + j) := h.2.2.2.2.1 k hk j hj
theorem Tk.cgau (h : Tk M R b np ng sg) {g : Nat} (hg : g < ng) : GkO M b g sg := h.2.2.2.2.2 g hg
theorem GkO.congr {g : Nat} (h : GkO M b g sg) (e : M' (b + 12 + 2 * g) = M (b + 12 + 2 * g)) (e2 : M' (b + 13 + 2 * g) = M (b + 13 + 2 * g)) (e3 : ∀ j, 122 + 62 * g ≤ j → j < 184 + 62 * g → ro j = sg j) : GkO M' b g ro := by
  obtain ⟨h1, h2, x, h3, h4, h5⟩ := h
  refine ⟨by rw [e, e3 _ (by omega) (by omega)]; exact h1, by rw [e, e3 _ (by omega) (by omega)]; exact h2, x, h3, by rw [e]; exact h4, fun m hm hm2 ago ha => ?_⟩
  rw [e3 _ (by omega) (by omega)] at hm2
  rw [e2, e3 _ (by omega) (by omega)]
  exact h5 m hm hm2 ago ha
theorem Tk.frame (h : Tk M R b np ng sg) (hR : RT R b) (h6 : np ≤ 6) (h4 : ng ≤ 4) (e : ∀ a, b ≤ a → a < b + 20 → M' a = M a ∧ R' a = R a) : Tk M' R' b np ng sg := by
  obtain ⟨h1, ⟨h2, h3, h7⟩, h8, h9, h10, h11⟩ := h
  refine ⟨fun i hi => by rw [(e _ (by omega) (by omega)).1]; exact h1 i hi, ⟨by rw [(e _ (by omega) (by omega)).1]; exact h2, by rw [(e _ (by omega) (by omega)).1]; exact h3, by rw [(e _ (by omega) (by omega)).1]; exact h7⟩, fun i hi => by rw [(e _ (by omega) (by omega)).1]; exact h8 i hi, fun i hi => by rw [(e _ (by omega) (by omega)).1]; exact h9 i hi, fun k hk j hj => ?_, fun g hg => (h11 g hg).congr (e _ (by omega) (by omega)).1 (e _ (by omega) (by omega)).1 fun _ _ _ => rfl⟩
  have := hR.2.2.1 k (by omega)
  rw [(e (b + 4) (by omega) (by omega)).2, (e _ (by omega) (by omega)).1]
  exact h10 k hk j hj
theorem RT.frame (hR : RT R b) (e : ∀ a, b ≤ a → a < b + 20 → R' a = R a) : RT R' b := by
  obtain ⟨⟨a1, a2, a3, a4, a5⟩, h2, h3, h4⟩ := hR
  refine ⟨⟨by rw [e _ (by omega) (by omega)]; exact a1, by rw [e _ (by omega) (by omega)]; exact a2, by rw [e _ (by omega) (by omega)]; exact a3, by rw [e _ (by omega) (by omega)]; exact a4, by rw [e _ (by omega) (by omega)]; exact a5⟩, fun g hg => ?_, fun k hk => by rw [e _ (by omega) (by omega)]; exact h3 k hk, fun i j hi hj => by rw [e _ (by omega) (by omega)]; exact h4 i j hi hj⟩
  rw [e _ (by omega) (by omega), e _ (by omega) (by omega)]
  exact h2 g hg
theorem Tk.sgc (h : Tk M R b np ng sg) (h6 : np ≤ 6) (h4 : ng ≤ 4) (e : ∀ j, j < 370 → ro j = sg j) : Tk M R b np ng ro := by
  obtain ⟨h1, ⟨h2, h3, h7⟩, h8, h9, h10, h11⟩ := h
  exact ⟨fun i hi => by rw [e _ (by omega)]; exact h1 i hi, ⟨by rw [e _ (by omega)]; exact h2, by rw [e _ (by omega)]; exact h3, by rw [e _ (by omega)]; exact h7⟩, fun i hi => by rw [e _ (by omega)]; exact h8 i hi, fun i hi => by rw [e _ (by omega)]; exact h9 i hi, fun k hk j hj => by rw [e _ (by omega)]; exact h10 k hk j hj, fun g hg => (h11 g hg).congr rfl rfl fun j _ _ => e _ (by omega)⟩
/-- numbers of a tank written, and the state's -/
theorem Tk.ulev (h : Tk M R b np ng sg) (hR : RT R b) (h6 : np ≤ 6) {c : Nat} (hc : c < 40) (v : Int32) : Tk (u2 M (b + 2) c v) R b np ng (up sg (6 + c) v) := by
  obtain ⟨h1, ⟨h2, h3, h7⟩, h8, h9, h10, h11⟩ := h
  refine ⟨fun i hi => by rw [u2_n _ _ _ (by omega), up_n _ _ (by omega)]; exact h1 i hi, ⟨by rw [u2_n _ _ _ (by omega), up_n _ _ (by omega)]; exact h2, by rw [u2_n _ _ _ (by omega), up_n _ _ (by omega)]; exact h3, by rw [u2_n _ _ _ (by omega), up_n _ _ (by omega)]; exact h7⟩, fun i hi => ?_, fun i hi => by rw [u2_n _ _ _ (by omega), up_n _ _ (by omega)]; exact h9 i hi, fun k hk j hj => ?_, fun g hg => (h11 g hg).congr (u2_n _ _ _ (by omega)) (u2_n _ _ _ (by omega)) fun j _ _ => up_n _ _ (by omega)⟩
  · by_cases e : i = c
    · rw [e, u2_s, up_s, up_s]
    · rw [u2_s, up_n _ _ e, up_n _ _ (by omega)]
      exact h8 i hi
  · have := hR.2.2.1 k (by omega)
    rw [u2_n _ _ _ (by omega), up_n _ _ (by omega)]
    exact h10 k hk j hj
theorem Tk.uspd (h : Tk M R b np ng sg) (hR : RT R b) (h6 : np ≤ 6) {c : Nat} (hc : c < 40) (v : Int32) : Tk (u2 M (b + 3) c v) R b np ng (up sg (46 + c) v) := by
  obtain ⟨h1, ⟨h2, h3, h7⟩, h8, h9, h10, h11⟩ := h
  refine ⟨fun i hi => by rw [u2_n _ _ _ (by omega), up_n _ _ (by omega)]; exact h1 i hi, ⟨by rw [u2_n _ _ _ (by omega), up_n _ _ (by omega)]; exact h2, by rw [u2_n _ _ _ (by omega), up_n _ _ (by omega)]; exact h3, by rw [u2_n _ _ _ (by omega), up_n _ _ (by omega)]; exact h7⟩, fun i hi => by rw [u2_n _ _ _ (by omega), up_n _ _ (by omega)]; exact h8 i hi, fun i hi => ?_, fun k hk j hj => ?_, fun g hg => (h11 g hg).congr (u2_n _ _ _ (by omega)) (u2_n _ _ _ (by omega)) fun j _ _ => up_n _ _ (by omega)⟩
  · by_cases e : i = c
    · rw [e, u2_s, up_s, up_s]
    · rw [u2_s, up_n _ _ e, up_n _ _ (by omega)]
      exact h9 i hi
  · have := hR.2.2.1 k (by omega)
    rw [u2_n _ _ _ (by omega), up_n _ _ (by omega)]
    exact h10 k hk j hj
theorem Tk.uset (h : Tk M R b np ng sg) (hR : RT R b) (h6 : np ≤ 6) {c : Nat} (hc : c < 3) (v : Int32) : Tk (u2 M (b + 1) c v) R b np ng (up sg c v) := by
  obtain ⟨h1, ⟨h2, h3, h7⟩, h8, h9, h10, h11⟩ := h
  refine ⟨fun i hi => ?_, ⟨by rw [u2_n _ _ _ (by omega), up_n _ _ (by omega)]; exact h2, by rw [u2_n _ _ _ (by omega), up_n _ _ (by omega)]; exact h3, by rw [u2_n _ _ _ (by omega), up_n _ _ (by omega)]; exact h7⟩, fun i hi => by rw [u2_n _ _ _ (by omega), up_n _ _ (by omega)]; exact h8 i hi, fun i hi => by rw [u2_n _ _ _ (by omega), up_n _ _ (by omega)]; exact h9 i hi, fun k hk j hj => ?_, fun g hg => (h11 g hg).congr (u2_n _ _ _ (by omega)) (u2_n _ _ _ (by omega)) fun j _ _ => up_n _ _ (by omega)⟩
  · by_cases e : i = c
    · rw [e, u2_s, up_s, up_s]
    · rw [u2_s, up_n _ _ e, up_n _ _ (by omega)]
      exact h1 i hi
  · have := hR.2.2.1 k (by omega)
    rw [u2_n _ _ _ (by omega), up_n _ _ (by omega)]
    exact h10 k hk j hj
theorem Tk.ustp (h : Tk M R b np ng sg) (hR : RT R b) (h6 : np ≤ 6) (v : Int32) : Tk (u2 M b 7 v) R b np ng (up sg 3 v) := by
  obtain ⟨h1, ⟨h2, h3, h7⟩, h8, h9, h10, h11⟩ := h
  refine ⟨fun i hi => by rw [u2_n _ _ _ (by omega), up_n _ _ (by omega)]; exact h1 i hi, ⟨by rw [u2_s, up_s, up_s], by rw [u2_s, up_n _ _ (by omega), up_n _ _ (by omega)]; exact h3, by rw [u2_s, up_n _ _ (by omega), up_n _ _ (by omega)]; exact h7⟩, fun i hi => by rw [u2_n _ _ _ (by omega), up_n _ _ (by omega)]; exact h8 i hi, fun i hi => by rw [u2_n _ _ _ (by omega), up_n _ _ (by omega)]; exact h9 i hi, fun k hk j hj => ?_, fun g hg => (h11 g hg).congr (u2_n _ _ _ (by omega)) (u2_n _ _ _ (by omega)) fun j _ _ => up_n _ _ (by omega)⟩
  have := hR.2.2.1 k (by omega)
  rw [u2_n _ _ _ (by omega), up_n _ _ (by omega)]
  exact h10 k hk j hj
theorem Tk.upad (h : Tk M R b np ng sg) (hR : RT R b) (h6 : np ≤ 6) {k j : Nat} (hk : k < np) (hj : j < 6) (v : Int32) : Tk (u2 M (R (b + 4) k) j v) R b np ng (up sg (86 + 6 * k + j) v) := by
  obtain ⟨h1, ⟨h2, h3, h7⟩, h8, h9, h10, h11⟩ := h
  have hp := hR.2.2.1 k (by omega)
  refine ⟨fun i hi => by rw [u2_n _ _ _ (by omega), up_n _ _ (by omega)]; exact h1 i hi, ⟨by rw [u2_n _ _ _ (by omega), up_n _ _ (by omega)]; exact h2, by rw [u2_n _ _ _ (by omega), up_n _ _ (by omega)]; exact h3, by rw [u2_n _ _ _ (by omega), up_n _ _ (by omega)]; exact h7⟩, fun i hi => by rw [u2_n _ _ _ (by omega), up_n _ _ (by omega)]; exact h8 i hi, fun i hi => by rw [u2_n _ _ _ (by omega), up_n _ _ (by omega)]; exact h9 i hi, fun q hq i hi => ?_, fun g hg => (h11 g hg).congr (u2_n _ _ _ (by omega)) (u2_n _ _ _ (by omega)) fun j _ _ => up_n _ _ (by omega)⟩
  by_cases e : q = k
  · subst e
    rw [u2_s]
    by_cases e2 : i = j
    · rw [e2, up_s, up_s]
    · rw [up_n _ _ e2, up_n _ _ (by omega)]
      exact h10 q hq i hi
  · have : R (b + 4) q ≠ R (b + 4) k := fun e2 => e (hR.2.2.2 q k (by omega) (by omega) e2)
    rw [u2_n _ _ _ this, up_n _ _ (by omega)]
    exact h10 q hq i hi
end
