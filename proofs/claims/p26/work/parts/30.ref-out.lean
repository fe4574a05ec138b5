/-! THE REFERENCE: a text carried out -/
theorem nI_m6 {e : Nat} (h : e < 1000) : ¬ nI e = -6 := fun q => by
  have := congrArg Int32.toInt q
  rw [nI_toInt (by omega), show (-6 : Int32).toInt = -6 by decide] at this
  omega
theorem nI_ex (x : Int32) : ∃ n, x = nI n := ⟨x.toUInt32.toNat, by
  rw [nI, Int32.ofNat]
  simp⟩
