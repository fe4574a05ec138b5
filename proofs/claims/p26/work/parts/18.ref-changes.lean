/-! THE REFERENCE: changes -/
theorem u2_at {α : Type} {f : Nat → Nat → α} {a i : Nat} {r : Nat → α} {v : α} (h : f a = r) : u2 f a i v = up f a (up r i v) := by rw [u2_eq, h]
abbrev svOk (s v : Int32) : Prop := (s = 0 ∧ 0 ≤ v ∧ v ≤ 100) ∨ (s = 1 ∧ 0 ≤ v ∧ v ≤ 50) ∨ (s = 2 ∧ 1 ≤ v ∧ v ≤ 9999)
abbrev rcOk (so he pe f : Int32) : Prop := (0 ≤ so ∧ so ≤ 3) ∧ (-999 ≤ he ∧ he ≤ 999) ∧ (1 ≤ pe ∧ pe ≤ 60) ∧ (0 ≤ f ∧ f ≤ 59)
def whyP (sg : Nat → Int32) (np : Nat) (c so he pe f : Int32) : Int32 := if 0 ≤ c ∧ c ≤ 35 then (if rcOk so he pe f then (if rkU sg c np = -6 ∧ np = 6 then -4 else 0) else -2) else -1
def lfN (sg : Nat → Int32) (k i : Nat) : Nat → Int32 := fun j => if 86 + 6 * k ≤ j ∧ j < i then sg (j + 6) else sg j
def lfF (sg : Nat → Int32) (np k : Nat) : Nat → Int32 := lfN (up sg 4 (nI (np - 1))) k (86 + 6 * (np - 1))
theorem lfN_0 (sg : Nat → Int32) (k : Nat) : lfN sg k (86 + 6 * k) = sg := by
  funext j
  rw [lfN, if_neg (by omega)]
theorem lfN_s {sg : Nat → Int32} {k i : Nat} (h : 86 + 6 * k ≤ i) : up (lfN sg k i) i (lfN sg k i (i + 6)) = lfN sg k (i + 1) := by
  funext j
  by_cases hj : j = i
  · subst hj
    rw [up_s, lfN, lfN, if_neg (by omega), if_pos (by omega)]
  · rw [up_n _ _ hj]
    by_cases h2 : 86 + 6 * k ≤ j ∧ j < i
    · rw [lfN, lfN, if_pos h2, if_pos (by omega)]
    · rw [lfN, lfN, if_neg h2, if_neg (by omega)]
theorem rkU_in {sg : Nat → Int32} {c : Int32} : ∀ {m : Nat}, ¬ rkU sg c m = -6 → ∃ k, k < m ∧ rkU sg c m = nI k
  | 0, h => absurd rfl h
  | m + 1, h => by
    unfold rkU at h ⊢
    split at h
    · rename_i q
      exact ⟨m, by omega, by rw [if_pos q]⟩
    · rename_i q
      obtain ⟨k, h1, h2⟩ := rkU_in h
      exact ⟨k, by omega, by rw [if_neg q]; exact h2⟩
def cgN (sg : Nat → Int32) (g : Nat) (c : Int32) (i : Nat) : Nat → Int32 := fun j => if 122 + 62 * g ≤ j ∧ j < 122 + 62 * g + i then (if j = 122 + 62 * g then c else 0) else sg j
def cgF (sg : Nat → Int32) (g : Nat) (c : Int32) : Nat → Int32 := up (cgN sg g c 62) 5 (nI (g + 1))
def whyG (ng : Nat) (c : Int32) : Int32 := if 0 ≤ c ∧ c ≤ 39 then (if ng = 4 then -4 else 0) else -1
theorem cgN_0 (sg : Nat → Int32) (g : Nat) (c : Int32) : cgN sg g c 0 = sg := by
  funext j
  rw [cgN, if_neg (by omega)]
theorem cgN_s {sg : Nat → Int32} {g i : Nat} {c v : Int32} (hv : v = if i = 0 then c else 0) : up (cgN sg g c i) (122 + 62 * g + i) v = cgN sg g c (i + 1) := by
  funext j
  by_cases hj : j = 122 + 62 * g + i
  · subst hj
    rw [up_s, cgN, if_pos (by omega), hv]
    by_cases h : i = 0
    · rw [if_pos h, if_pos (by omega)]
    · rw [if_neg h, if_neg (by omega)]
  · rw [up_n _ _ hj]
    by_cases h2 : 122 + 62 * g ≤ j ∧ j < 122 + 62 * g + i
    · rw [cgN, cgN, if_pos h2, if_pos (c := 122 + 62 * g ≤ j ∧ j < 122 + 62 * g + (i + 1)) (by omega)]
    · rw [cgN, cgN, if_neg h2, if_neg (by omega)]
theorem cell_in {c : Int32} (h : 0 ≤ c ∧ c ≤ 39) : ∃ k, k < 40 ∧ c = nI k := by
  obtain ⟨j, h1, h2⟩ := nI_of2 (M := 39) (n := 39) (by decide) (Int32.not_lt.mpr h.1) h.2
  exact ⟨j, by omega, h2⟩
def whyN (sg : Nat → Int32) (m : Int32) : Int32 := if 1 ≤ m ∧ m ≤ 99 then (if 99999 < sg 3 + m then -5 else 0) else -2
theorem whyN_in {sg : Nat → Int32} {m : Int32} (h : ¬ whyN sg m < 0) : ∃ k, 1 ≤ k ∧ k < 100 ∧ m = nI k := by
  unfold whyN at h
  split at h
  · rename_i q
    obtain ⟨j, h1, h2⟩ := nI_of2 (M := 99) (n := 99) (by decide) (Int32.not_lt.mpr (Int32.le_trans (by decide) q.1)) q.2
    refine ⟨j, ?_, by omega, h2⟩
    rw [h2] at q
    exact (nI_leI (a := 1) (by decide) (by omega)).mp q.1
  · exact absurd (by decide) h
