/-! THE REFERENCE: the carrying out of orders -/
def nP (sg : Nat → Int32) : Nat := (sg 4).toNatClampNeg
def nG (sg : Nat → Int32) : Nat := (sg 5).toNatClampNeg
theorem Ok0.nP {sg : Nat → Int32} {np ng : Nat} (h : Ok0 sg np ng) : nP sg = np := by
  have := h.1.2
  show (sg 4).toNatClampNeg = np
  rw [h.1.1, nI_clamp (by omega)]
theorem Ok0.nG {sg : Nat → Int32} {np ng : Nat} (h : Ok0 sg np ng) : nG sg = ng := by
  have := h.2.1.2
  show (sg 5).toNatClampNeg = ng
  rw [h.2.1.1, nI_clamp (by omega)]
