/-! THE REFERENCE: undo, save, restore; signs put and wiped -/
theorem nI_m1 (n : Nat) : nI (n + 1) - 1 = nI n := nI_pred n
theorem slot_in {v : Int32} (h : 0 ≤ v ∧ v ≤ 1) : ∃ k, k < 2 ∧ v = nI k := by
  obtain ⟨j, h1, h2⟩ := nI_of2 (M := 1) (n := 1) (by decide) (Int32.not_lt.mpr h.1) h.2
  exact ⟨j, by omega, h2⟩
/-- signs packed in a number, the first one highest: how many, what is left, whether all are fair -/
def by8 (r : Int64) : Int64 := r &&& 255
def sh8 (r : Int64) : Int64 := (r.toUInt64 >>> ((8 : Int32).toInt64.toUInt64 &&& Int64.toUInt64 63)).toInt64
def byF (r : Int64) : Prop := 33 ≤ (by8 r).toInt32 ∧ (by8 r).toInt32 ≤ 126
def rsN (v : Int64) : Nat → Int64
  | 0 => v
  | k + 1 => sh8 (rsN v k)
/-- v gives n signs -/
def PutN (v : Int64) (n : Nat) : Prop := 0 < n ∧ n ≤ 8 ∧ (∀ k, k < n → ¬ lg_cmp (by8 (rsN v k)) 0 = 0) ∧ (∀ k, k < n → byF (rsN v k)) ∧ lg_cmp (rsN v n) 0 = 0
theorem lg_0 {x : Int64} : lg_cmp x 0 = 0 ↔ x = 0 := by
  unfold lg_cmp
  by_cases h1 : x > 0
  · rw [if_pos h1]
    refine ⟨fun h => absurd h (by decide), fun h => ?_⟩
    rw [h] at h1
    exact absurd h1 (by decide)
  · rw [if_neg h1]
    by_cases h2 : x = 0
    · rw [if_pos h2]
      exact ⟨fun _ => h2, fun _ => rfl⟩
    · rw [if_neg h2]
      exact ⟨fun h => absurd h (by decide), fun h => absurd h h2⟩
def byt (v : Int64) (k : Nat) : Int32 := ((v.toUInt64 >>> (((8 : Int32) * nI k).toInt64.toUInt64 &&& Int64.toUInt64 63)).toInt64 &&& 255).toInt32
def ptR (tx : Nat → Int32) (pl n : Nat) (v : Int64) (j : Nat) : Nat → Int32 := fun i => if pl ≤ i ∧ i < pl + j then byt v (n - 1 - (i - pl)) else tx i
theorem ptR_0 (tx : Nat → Int32) (pl n : Nat) (v : Int64) : ptR tx pl n v 0 = tx := by
  funext i
  rw [ptR, if_neg (by omega)]
theorem ptR_s {tx : Nat → Int32} {pl n j k : Nat} {v : Int64} (h : k + j + 1 = n) : up (ptR tx pl n v j) (pl + j) (byt v k) = ptR tx pl n v (j + 1) := by
  funext i
  by_cases hi : i = pl + j
  · subst hi
    rw [up_s, ptR, if_pos (by omega), show n - 1 - (pl + j - pl) = k by omega]
  · rw [up_n _ _ hi, ptR, ptR]
    by_cases h2 : pl ≤ i ∧ i < pl + j
    · rw [if_pos h2, if_pos (by omega)]
    · rw [if_neg h2, if_neg (by omega)]
theorem PutN.only {v : Int64} {q m : Nat} (h : PutN v q) (hm : m ≤ 8) (hz : ∀ k, k < m → ¬ lg_cmp (by8 (rsN v k)) 0 = 0) (he : m = 8 ∨ lg_cmp (by8 (rsN v m)) 0 = 0) : q = m := by
  obtain ⟨q1, q2, q3, q4, q5⟩ := h
  by_cases hlt : q < m
  · exfalso
    apply hz q hlt
    rw [lg_0.mp q5]
    decide
  · by_cases hgt : m < q
    · exfalso
      rcases he with h | h
      · omega
      · exact q3 m hgt h
    · omega
