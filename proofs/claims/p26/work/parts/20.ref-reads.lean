/-! THE REFERENCE: what there is -/
theorem crest_1 {sg : Nat → Int32} {c : Nat} (h : ¬ crest sg c = 0) : crest sg c = 1 := by
  unfold crest at h ⊢
  split
  · rfl
  · rename_i q
    rw [if_neg q] at h
    exact absurd rfl h
theorem trough_1 {sg : Nat → Int32} {c : Nat} (h : ¬ trough sg c = 0) : trough sg c = 1 := by
  unfold trough at h ⊢
  split
  · rfl
  · rename_i q
    rw [if_neg q] at h
    exact absurd rfl h
def cellR (sg : Nat → Int32) (k : Nat) (w : Int32) : Int32 := if w = 0 then sg (6 + k) + 10000 else if w = 1 then sg (46 + k) + 10000 else if w = 2 then crest sg k else if w = 3 then trough sg k else -2
theorem lt_pred {k : Int32} {m : Nat} (hm : m < 2 ^ 31) : (0 ≤ k ∧ k ≤ nI m - 1) ↔ (0 ≤ k ∧ k < nI m) := by
  have e : (nI m - 1).toInt = (m : Int) - 1 := by
    rw [sub_int (by rw [nI_toInt hm, show (1 : Int32).toInt = 1 by decide]; omega) (by rw [nI_toInt hm, show (1 : Int32).toInt = 1 by decide]; omega), nI_toInt hm]
    rfl
  rw [Int32.le_iff_toInt_le, Int32.le_iff_toInt_le, Int32.lt_iff_toInt_lt, e, nI_toInt hm]
  omega
theorem rank_in {k : Int32} {m : Nat} (hm : m < 2 ^ 31) (h : 0 ≤ k ∧ k < nI m) : ∃ j, j < m ∧ k = nI j := by
  obtain ⟨j, h1, h2⟩ := nI_of (Int32.not_lt.mpr h.1)
  refine ⟨j, ?_, h2⟩
  rw [h2] at h
  exact (nI_ltI h1 hm).mp h.2
def ofpR (sg : Nat → Int32) (k : Nat) (w : Int32) : Int32 := if w = 0 then sg (86 + 6 * k + 0) else if w = 1 then sg (86 + 6 * k + 1) else if w = 2 then sg (86 + 6 * k + 2) + 1000 else if w = 3 then sg (86 + 6 * k + 3) else if w = 4 then sg (86 + 6 * k + 4) else if w = 5 then sg (86 + 6 * k + 5) else if w = 6 then pushS sg k + 1000 else -2
def exU (gr : Int32) (f : Nat → Int32) : Nat → Int32
  | 0 => f 0
  | k + 1 => if gr = 0 then (if f (k + 1) < exU gr f k then f (k + 1) else exU gr f k) else (if exU gr f k < f (k + 1) then f (k + 1) else exU gr f k)
def exR (sg : Nat → Int32) (g m : Nat) (gr : Int32) : Int32 := if m = 0 then -6 else exU gr (fun i => sg (122 + 62 * g + (2 + i))) (m - 1) + 10000
def riU (f : Nat → Int32) : Nat → Int32
  | 0 => 0
  | k + 1 => riU f k + (if 0 ≤ f (k + 1) ∧ f k < 0 then 1 else 0)
def ofgR (sg : Nat → Int32) (g m : Nat) (w : Int32) : Int32 := if w = 0 then sg (122 + 62 * g + 0) else if w = 1 then sg (122 + 62 * g + 1) else if w = 2 then exR sg g m 1 else if w = 3 then exR sg g m 0 else if w = 4 then riU (fun i => sg (122 + 62 * g + (2 + i))) (m - 1) else -2
