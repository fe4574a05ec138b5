/-! THE REFERENCE: a step -/
def remI (x z : Int32) : Int32 := x - x / z * z
/-- a recipe's push, t of its period gone -/
def pushV (sort height period t : Int32) : Int32 := if sort = 0 then height else if sort = 1 then height * (2 * t - period) / period else if sort = 2 then (if 2 * t < period then height else -height) else height * (4 * (if t < period - t then t else period - t) - period) / period
def pushS (sg : Nat → Int32) (k : Nat) : Int32 := pushV (sg (86 + 6 * k + 1)) (sg (86 + 6 * k + 2)) (sg (86 + 6 * k + 3)) (remI (sg 3 + sg (86 + 6 * k + 4)) (sg (86 + 6 * k + 3)))
theorem pushS_up (sg : Nat → Int32) (k : Nat) (v : Int32) : pushS (up sg (86 + 6 * k + 5) v) k = pushS sg k := by
  unfold pushS
  rw [up_n _ _ (by omega), up_n _ _ (by omega), up_n _ _ (by omega), up_n _ _ (by omega), up_n _ _ (by omega)]
/-- the cell of the paddle of rank k -/
def cel (sg : Nat → Int32) (k : Nat) : Nat := (sg (86 + 6 * k)).toNatClampNeg
/-- what a paddle does in a step: the numbers behind it, and whether it stops -/
def pa1 (sg : Nat → Int32) (k : Nat) : Nat → Int32 := if sg (86 + 6 * k + 5) = 1 then (if sg 2 < szI (sg (6 + cel sg k)) then up sg (86 + 6 * k + 5) 0 else up (up sg (86 + 6 * k + 5) 1) (6 + cel sg k) (pushS sg k)) else sg
def pc1 (sg : Nat → Int32) (k : Nat) : Int32 := if sg (86 + 6 * k + 5) = 1 then (if sg 2 < szI (sg (6 + cel sg k)) then 1 else 0) else 0
def paN (sg : Nat → Int32) : Nat → Nat → Int32
  | 0 => sg
  | k + 1 => pa1 (paN sg k) k
def pcN (sg : Nat → Int32) : Nat → Int32
  | 0 => 0
  | k + 1 => pcN sg k + pc1 (paN sg k) k
/-- what the rows of the paddles must be for a step -/
def PdS (sg : Nat → Int32) (np : Nat) : Prop := ∀ k, k < np → (∃ c, c < 36 ∧ sg (86 + 6 * k) = nI c) ∧ ¬ sg (86 + 6 * k + 3) = 0
theorem pa1_same {sg : Nat → Int32} {k j c : Nat} (hc : sg (86 + 6 * k) = nI c) (h36 : c < 36) (hj : j < 6 ∨ 46 ≤ j) (hn : j ≠ 86 + 6 * k + 5) : pa1 sg k j = sg j := by
  have e : cel sg k = c := by rw [cel, hc, nI_clamp (by omega)]
  unfold pa1
  rw [e]
  split
  · split
    · rw [up_n _ _ hn]
    · rw [up_n _ _ (by omega), up_n _ _ hn]
  · rfl
theorem paN_same {sg : Nat → Int32} {np : Nat} (h : PdS sg np) : ∀ {k : Nat}, k ≤ np → ∀ {j : Nat}, (j < 6 ∨ 46 ≤ j) → (∀ i, j ≠ 91 + 6 * i) → paN sg k j = sg j
  | 0, _, _, _, _ => rfl
  | k + 1, hk, j, hj, hn => by
    obtain ⟨⟨c, h36, hc⟩, -⟩ := h k (by omega)
    have e1 := paN_same h (k := k) (by omega) (j := 86 + 6 * k) (by omega) (fun i => by omega)
    show pa1 (paN sg k) k j = _
    rw [pa1_same (e1.trans hc) h36 hj (by have := hn k; omega)]
    exact paN_same h (by omega) hj hn
/-- a cell's speed behind a step -/
def spdV (sg : Nat → Int32) (c : Nat) : Int32 := bnd (sg (46 + c) + (sg (6 + (if c = 0 then c else c - 1)) + sg (6 + (if c = 39 then c else c + 1)) - 2 * sg (6 + c)) / 4) - bnd (sg (46 + c) + (sg (6 + (if c = 0 then c else c - 1)) + sg (6 + (if c = 39 then c else c + 1)) - 2 * sg (6 + c)) / 4) * sg 1 / 100
def swA (sg : Nat → Int32) (i : Nat) : Nat → Int32 := fun j => if 46 ≤ j ∧ j < 46 + i then spdV sg (j - 46) else sg j
def swB (sg : Nat → Int32) (i : Nat) : Nat → Int32 := fun j => if 6 ≤ j ∧ j < 6 + i then bnd (sg j + spdV sg (j - 6)) else swA sg 40 j
theorem swA_lo {sg : Nat → Int32} {i j : Nat} (h : j < 46 ∨ 46 + i ≤ j) : swA sg i j = sg j := by rw [swA, if_neg (by omega)]
theorem swA_0 (sg : Nat → Int32) : swA sg 0 = sg := by
  funext j
  exact swA_lo (by omega)
theorem swA_s {sg : Nat → Int32} {i : Nat} {v : Int32} (h : v = spdV sg i) : up (swA sg i) (46 + i) v = swA sg (i + 1) := by
  funext j
  by_cases hj : j = 46 + i
  · subst hj
    rw [up_s, swA, if_pos (by omega), h, Nat.add_sub_cancel_left]
  · rw [up_n _ _ hj]
    by_cases h2 : 46 ≤ j ∧ j < 46 + i
    · rw [swA, swA, if_pos h2, if_pos (by omega)]
    · rw [swA, swA, if_neg h2, if_neg (by omega)]
theorem swB_0 (sg : Nat → Int32) : swB sg 0 = swA sg 40 := by
  funext j
  rw [swB, if_neg (by omega)]
theorem swB_s {sg : Nat → Int32} {i : Nat} {v : Int32} (h : v = bnd (sg (6 + i) + spdV sg i)) : up (swB sg i) (6 + i) v = swB sg (i + 1) := by
  funext j
  by_cases hj : j = 6 + i
  · subst hj
    rw [up_s, swB, if_pos (by omega), h, Nat.add_sub_cancel_left]
  · rw [up_n _ _ hj]
    by_cases h2 : 6 ≤ j ∧ j < 6 + i
    · rw [swB, swB, if_pos h2, if_pos (by omega)]
    · rw [swB, swB, if_neg h2, if_neg (by omega)]
def bcV (sg : Nat → Int32) (c j : Nat) : Int32 := sg j - sg j * (sg 0 * nI (c - 35)) / 400
def bcN (sg : Nat → Int32) (i : Nat) : Nat → Int32 := fun j => if 42 ≤ j ∧ j < 6 + i then bcV sg (j - 6) j else if 82 ≤ j ∧ j < 46 + i then bcV sg (j - 46) j else sg j
theorem bcN_lo {sg : Nat → Int32} {i j : Nat} (h1 : j < 42 ∨ 6 + i ≤ j) (h2 : j < 82 ∨ 46 + i ≤ j) : bcN sg i j = sg j := by rw [bcN, if_neg (by omega), if_neg (by omega)]
theorem bcN_0 (sg : Nat → Int32) : bcN sg 36 = sg := by
  funext j
  exact bcN_lo (by omega) (by omega)
theorem bcN_s {sg : Nat → Int32} {i : Nat} {v w : Int32} (h36 : 36 ≤ i) (h40 : i < 40) (hv : v = bcV sg i (6 + i)) (hw : w = bcV sg i (46 + i)) : up (up (bcN sg i) (6 + i) v) (46 + i) w = bcN sg (i + 1) := by
  funext j
  by_cases hj : j = 46 + i
  · subst hj
    rw [up_s, bcN, if_neg (by omega), if_pos (by omega), hw, Nat.add_sub_cancel_left]
  · rw [up_n _ _ hj]
    by_cases hj2 : j = 6 + i
    · subst hj2
      rw [up_s, bcN, if_pos (by omega), hv, Nat.add_sub_cancel_left]
    · rw [up_n _ _ hj2]
      by_cases h2 : 42 ≤ j ∧ j < 6 + i
      · rw [bcN, bcN, if_pos h2, if_pos (by omega)]
      · rw [bcN, bcN, if_neg h2, if_neg (c := 42 ≤ j ∧ j < 6 + (i + 1)) (by omega)]
        by_cases h3 : 82 ≤ j ∧ j < 46 + i
        · rw [if_pos h3, if_pos (by omega)]
        · rw [if_neg h3, if_neg (by omega)]
/-- what a gauge notes; n of them known -/
def ntV (sg : Nat → Int32) (g : Nat) : Int32 := sg (6 + (sg (122 + 62 * g)).toNatClampNeg)
def ntS (sg : Nat → Int32) (g i : Nat) : Nat → Int32 := fun j => if 124 + 62 * g ≤ j ∧ j < 123 + 62 * g + i then sg (j + 1) else sg j
def nt1 (sg : Nat → Int32) (g : Nat) : Nat → Int32 := if sg (122 + 62 * g + 1) = 60 then up (up (up (ntS sg g 60) (122 + 62 * g + 1) 59) (122 + 62 * g + 2 + 59) (ntV sg g)) (122 + 62 * g + 1) 60
  else up (up sg (122 + 62 * g + 2 + (sg (122 + 62 * g + 1)).toNatClampNeg) (ntV sg g)) (122 + 62 * g + 1) (sg (122 + 62 * g + 1) + 1)
def ntN (sg : Nat → Int32) : Nat → Nat → Int32
  | 0 => sg
  | g + 1 => nt1 (ntN sg g) g
/-- what the rows of the gauges must be for a step -/
def GgS (sg : Nat → Int32) (ng : Nat) : Prop := ∀ g, g < ng → (∃ c, c < 40 ∧ sg (122 + 62 * g) = nI c) ∧ ∃ m, m ≤ 60 ∧ sg (122 + 62 * g + 1) = nI m
theorem ntS_0 (sg : Nat → Int32) (g : Nat) : ntS sg g 1 = sg := by
  funext j
  rw [ntS, if_neg (by omega)]
theorem ntS_s {sg : Nat → Int32} {g i : Nat} (h1 : 1 ≤ i) : up (ntS sg g i) (123 + 62 * g + i) (ntS sg g i (124 + 62 * g + i)) = ntS sg g (i + 1) := by
  funext j
  by_cases hj : j = 123 + 62 * g + i
  · subst hj
    rw [up_s, ntS, ntS, if_neg (by omega), if_pos (by omega)]
    congr 1
    omega
  · rw [up_n _ _ hj]
    by_cases h2 : 124 + 62 * g ≤ j ∧ j < 123 + 62 * g + i
    · rw [ntS, ntS, if_pos h2, if_pos (by omega)]
    · rw [ntS, ntS, if_neg h2, if_neg (by omega)]
theorem nt1_same {sg : Nat → Int32} {g m j : Nat} (hm : m ≤ 60) (hn : sg (122 + 62 * g + 1) = nI m) (hj : j ≤ 122 + 62 * g ∨ 184 + 62 * g ≤ j) : nt1 sg g j = sg j := by
  unfold nt1
  rw [hn, nI_clamp (by omega)]
  split
  · rw [up_n _ _ (by omega), up_n _ _ (by omega), up_n _ _ (by omega), ntS, if_neg (by omega)]
  · rename_i h
    have : m ≠ 60 := fun q => h (by rw [q]; rfl)
    rw [up_n _ _ (by omega), up_n _ _ (by omega)]
theorem ntN_same {sg : Nat → Int32} {ng : Nat} (h : GgS sg ng) : ∀ {g : Nat}, g ≤ ng → ∀ {j : Nat}, (j < 122 ∨ 122 + 62 * g ≤ j) → ntN sg g j = sg j
  | 0, _, _, _ => rfl
  | g + 1, hg, j, hj => by
    obtain ⟨-, m, hm, hn⟩ := h g (by omega)
    have e1 := ntN_same h (g := g) (by omega) (j := 122 + 62 * g + 1) (by omega)
    show nt1 (ntN sg g) g j = _
    rw [nt1_same hm (e1.trans hn) (by omega)]
    exact ntN_same h (by omega) (by omega)
