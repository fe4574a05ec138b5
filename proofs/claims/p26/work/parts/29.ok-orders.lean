/-! THE REFERENCE: what orders keep -/
theorem whyP_rc {sg : Nat → Int32} {np : Nat} {c so he pe f : Int32} (h : ¬ whyP sg np c so he pe f < 0) : RcOk c so he pe f := by
  unfold whyP at h
  by_cases h1 : 0 ≤ c ∧ c ≤ 35
  · rw [if_pos h1] at h
    by_cases h2 : rcOk so he pe f
    · obtain ⟨k, k1, k2⟩ := nI_of2 (M := 35) (n := 35) (by decide) (Int32.not_lt.mpr h1.1) h1.2
      refine ⟨⟨k, by omega, k2⟩, ?_⟩
      obtain ⟨⟨s1, s2⟩, s3, ⟨s4, s5⟩, s6, s7⟩ := h2
      obtain ⟨x, x1, x2⟩ := nI_of2 (M := 3) (n := 3) (by decide) (Int32.not_lt.mpr s1) s2
      obtain ⟨z, z1, z2⟩ := nI_of2 (M := 59) (n := 59) (by decide) (Int32.not_lt.mpr s6) s7
      have s0 : ¬ pe < 0 := by
        have := Int32.le_iff_toInt_le.mp s4
        rw [show (1 : Int32).toInt = 1 by decide] at this
        rw [Int32.lt_iff_toInt_lt, show (0 : Int32).toInt = 0 by decide]
        omega
      obtain ⟨w, w1, w2⟩ := nI_of2 (M := 60) (n := 60) (by decide) s0 s5
      have w0 : 1 ≤ w := by
        have : ¬ w = 0 := fun e => by
          rw [w2, e] at s4
          exact absurd s4 (by decide)
        omega
      exact ⟨⟨x, by omega, x2⟩, s3, ⟨w, w0, w1, w2⟩, ⟨z, by omega, z2⟩⟩
    · rw [if_neg h2] at h
      exact absurd (by decide) h
  · rw [if_neg h1] at h
    exact absurd (by decide) h
theorem Ok0.kpu {sg : Nat → Int32} {np ng : Nat} {c so he pe f : Int32} (h : Ok0 sg np ng) (hw : ¬ whyP sg np c so he pe f < 0) : Ok0 (puF sg np c so he pe f) (if rkU sg c np = -6 then np + 1 else np) ng := by
  have hr := whyP_rc hw
  have h6 := h.1.2
  have hno := whyP_ok hw
  unfold puF
  by_cases hk : rkU sg c np = -6
  · rw [if_pos hk, if_pos hk]
    exact h.kin (by have : ¬ np = 6 := fun e => hno ⟨hk, e⟩; omega) hr (rkU_no h6 hk)
  · rw [if_neg hk, if_neg hk]
    obtain ⟨k, hk1, hk2⟩ := rkU_in hk
    rw [hk2, nI_clamp (by omega)]
    have h1 := h.klf hk1
    have h2 := h1.kin (c := c) (so := so) (he := he) (pe := pe) (f := f) (by omega) hr (fun q hq => by
      have e := lfF_at (sg := sg) (np := np) (k := k) (q := q) (j := 0) (by omega) (by omega)
      have e1 := (rkU_at h6 hk2 (by omega)).1
      intro e2
      have e3 : cel sg (if q < k then q else q + 1) = cel sg k := by
        unfold cel
        rw [e1]
        have e4 : lfF sg np k (86 + 6 * q) = sg (86 + 6 * (if q < k then q else q + 1)) := e
        rw [← e4, e2]
      have e5 := h.2.2.2.1
      by_cases q1 : q < k
      · rw [if_pos q1] at e3
        have := e5 q k q1 hk1
        omega
      · rw [if_neg q1] at e3
        have := e5 k (q + 1) (by omega) (by omega)
        omega)
    rw [show np - 1 + 1 = np by omega] at h2
    exact h2
theorem inF_4 {sg : Nat → Int32} {n : Nat} {c so he pe f : Int32} : inF sg n c so he pe f 4 = nI (n + 1) := by rw [inF, up_s]
theorem inF_lv {sg : Nat → Int32} {n j : Nat} {c so he pe f : Int32} (h1 : 6 ≤ j) (h2 : j < 86) (h5 : n ≤ 5) : inF sg n c so he pe f j = sg j := inF_no (by omega) (by omega) h5
theorem puF_lv {sg : Nat → Int32} {np j : Nat} {c so he pe f : Int32} (hw : ¬ whyP sg np c so he pe f < 0) (h6 : np ≤ 6) (h4 : j ≠ 4) (h2 : j < 86 ∨ 122 ≤ j) : puF sg np c so he pe f j = sg j := by
  have hno := whyP_ok hw
  unfold puF
  by_cases hk : rkU sg c np = -6
  · rw [if_pos hk]
    exact inF_no h4 h2 (by have : ¬ np = 6 := fun e => hno ⟨hk, e⟩; omega)
  · rw [if_neg hk, inF_no h4 h2 (by omega), lfF_no h4 h2 h6]
theorem BdL.same {sg ro : Nat → Int32} (h : BdL sg) (e : ∀ j, 6 ≤ j → j < 86 → ro j = sg j) : BdL ro := fun c hc => by
  rw [e _ (by omega) (by omega), e _ (by omega) (by omega)]
  exact h c hc
theorem BdL.klevel {sg : Nat → Int32} {t : Nat} {v : Int32} (h : BdL sg) (hv : bd v) : BdL (up sg (6 + t) v) := fun c hc => by
  constructor
  · by_cases e : 6 + c = 6 + t
    · rw [e, up_s]
      exact hv
    · rw [up_n _ _ e]
      exact (h c hc).1
  · by_cases e : 46 + c = 6 + t
    · rw [e, up_s]
      exact hv
    · rw [up_n _ _ e]
      exact (h c hc).2
/-- a state that calls leave -/
def OkS (sg : Nat → Int32) : Prop := Ok0 sg (nP sg) (nG sg) ∧ BdL sg
theorem OkS.of {sg : Nat → Int32} {np ng : Nat} (h : Ok0 sg np ng) (hb : BdL sg) : OkS sg := ⟨by rw [h.nP, h.nG]; exact h, hb⟩
