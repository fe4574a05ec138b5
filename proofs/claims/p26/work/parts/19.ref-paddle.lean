/-! THE REFERENCE: a paddle comes -/
def psn (sg : Nat → Int32) (c : Int32) : Nat → Nat
  | 0 => 0
  | k + 1 => if c < sg (86 + 6 * k) then psn sg c k else k + 1
theorem psn_le (sg : Nat → Int32) (c : Int32) : ∀ n, psn sg c n ≤ n
  | 0 => Nat.le_refl _
  | k + 1 => by
    unfold psn
    split
    · exact Nat.le_succ_of_le (psn_le sg c k)
    · exact Nat.le_refl _
/-- the paddles from rank k on, of n, a rank higher -/
def shN (sg : Nat → Int32) (n k : Nat) : Nat → Int32 := fun j => if 92 + 6 * k ≤ j ∧ j < 92 + 6 * n then sg (j - 6) else sg j
def shI (ro : Nat → Int32) (k i : Nat) : Nat → Int32 := fun j => if 86 + 6 * k ≤ j ∧ j < 86 + 6 * k + i then ro (j - 6) else ro j
def pf6 (ro : Nat → Int32) (k : Nat) (c so he pe f : Int32) : Nat → Int32 := up (up (up (up (up (up ro (86 + 6 * k + 0) c) (86 + 6 * k + 1) so) (86 + 6 * k + 2) he) (86 + 6 * k + 3) pe) (86 + 6 * k + 4) f) (86 + 6 * k + 5) 1
def inF (sg : Nat → Int32) (n : Nat) (c so he pe f : Int32) : Nat → Int32 := up (pf6 (shN sg n (psn sg c n)) (psn sg c n) c so he pe f) 4 (nI (n + 1))
def puF (sg : Nat → Int32) (np : Nat) (c so he pe f : Int32) : Nat → Int32 := if rkU sg c np = -6 then inF sg np c so he pe f else inF (lfF sg np (rkU sg c np).toNatClampNeg) (np - 1) c so he pe f
theorem shN_0 (sg : Nat → Int32) (n : Nat) : shN sg n n = sg := by
  funext j
  rw [shN, if_neg (by omega)]
theorem shI_0 (ro : Nat → Int32) (k : Nat) : shI ro k 0 = ro := by
  funext j
  rw [shI, if_neg (by omega)]
theorem shI_s {ro : Nat → Int32} {k i : Nat} (hk : 1 ≤ k) (hi : i < 6) : up (shI ro k i) (86 + 6 * k + i) (shI ro k i (86 + 6 * (k - 1) + i)) = shI ro k (i + 1) := by
  funext j
  by_cases hj : j = 86 + 6 * k + i
  · subst hj
    rw [up_s, shI, shI, if_neg (by omega), if_pos (by omega)]
    congr 1
    omega
  · rw [up_n _ _ hj]
    by_cases h2 : 86 + 6 * k ≤ j ∧ j < 86 + 6 * k + i
    · rw [shI, shI, if_pos h2, if_pos (by omega)]
    · rw [shI, shI, if_neg h2, if_neg (by omega)]
theorem shI_6 {sg : Nat → Int32} {n k : Nat} (hk : 1 ≤ k) (hn : k ≤ n) : shI (shN sg n k) k 6 = shN sg n (k - 1) := by
  funext j
  by_cases h1 : 86 + 6 * k ≤ j ∧ j < 86 + 6 * k + 6
  · rw [shI, if_pos h1, shN, if_neg (by omega), shN, if_pos (by omega)]
  · rw [shI, if_neg h1]
    by_cases h2 : 92 + 6 * k ≤ j ∧ j < 92 + 6 * n
    · rw [shN, if_pos h2, shN, if_pos (by omega)]
    · rw [shN, if_neg h2, shN, if_neg (by omega)]
theorem whyP_ok {sg : Nat → Int32} {np : Nat} {c so he pe f : Int32} (h : ¬ whyP sg np c so he pe f < 0) : ¬ (rkU sg c np = -6 ∧ np = 6) := by
  intro q
  apply h
  unfold whyP
  split
  · split
    · first | decide | (rw [if_pos q]; decide)
    · decide
  · decide
