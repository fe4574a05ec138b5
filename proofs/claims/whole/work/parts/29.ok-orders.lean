/-! THE REFERENCE: what orders keep -/
theorem whyP_rc {sg : Nat → Int32} {np : Nat} {c so he pe f : Int32} (h : ¬ whyP sg np c so he pe f < 0) : RcOk c so he pe f := by
  unfold whyP at h
  by_cases h1 : 0 ≤ c ∧ c ≤ 35
  · rw [if_pos h1] at h
    by_cases h2 : rcOk so he pe f
    · obtain ⟨k, k1, k2⟩ := nI_of2 (M := 35) (n := 35) (by decide) (Int32.not_lt.mpr h1.1) h1.2
      refine ⟨⟨k, by omega, k2⟩, ?_⟩
      obtain ⟨⟨s1, s2⟩, s3, ⟨s4, s5⟩, s6, s7⟩ := h2
      obtain ⟨x, x1, x2⟩ := nI_of2 (M := 3) (n := 3) (by decide) (Int32.not_lt.mpr s1) s2
      obtain ⟨z, z1, z2⟩ := nI_of2 (M := 59) (n := 59) (by decide) (Int32.not_lt.mpr s6) s7
      have s0 : ¬ pe < 0 := by
        have := Int32.le_iff_toInt_le.mp s4
        rw [show (1 : Int32).toInt = 1 by decide] at this
        rw [Int32.lt_iff_toInt_lt, show (0 : Int32).toInt = 0 by decide]
        omega
      obtain ⟨w, w1, w2⟩ := nI_of2 (M := 60) (n := 60) (by decide) s0 s5
      have w0 : 1 ≤ w := by
        have : ¬ w = 0 := fun e => by
          rw [w2, e] at s4
          exact absurd s4 (by decide)
        omega
      exact ⟨⟨x, by omega, x2⟩, s3, ⟨w, w0, w1, w2⟩, ⟨z, by omega, z2⟩⟩
    · rw [if_neg h2] at h
      exact absurd (by decide) h
  · rw [if_neg h1] at h
    exact absurd (by decide) h
theorem Ok0.kpu {sg : Nat → Int32} {np ng : Nat} {c so he pe f : Int32} (h : Ok0 sg np ng) (hw : ¬ whyP sg np c so he pe f < 0) : Ok0 (puF sg np c so he pe f) (if rkU sg c np = -6 then np + 1 else np) ng := by
  have hr := whyP_rc hw
  have h6 := h.1.2
  have hno := whyP_ok hw
  unfold puF
  by_cases hk : rkU sg c np = -6
  · rw [if_pos hk, if_pos hk]
    exact h.kin (by have : ¬ np = 6 := fun e => hno ⟨hk, e⟩; omega) hr (rkU_no h6 hk)
  · rw [if_neg hk, if_neg hk]
    obtain ⟨k, hk1, hk2⟩ := rkU_in hk
    rw [hk2, nI_clamp (by omega)]
    have h1 := h.klf hk1
    have h2 := h1.kin (c := c) (so := so) (he := he) (pe := pe) (f := f) (by omega) hr (fun q hq => by
      have e := lfF_at (sg := sg) (np := np) (k := k) (q := q) (j := 0) (by omega) (by omega)
      have e1 := (rkU_at h6 hk2 (by omega)).1
      intro e2
      have e3 : cel sg (if q < k then q else q + 1) = cel sg k := by
        unfold cel
        rw [e1]
        have e4 : lfF sg np k (86 + 6 * q) = sg (86 + 6 * (if q < k then q else q + 1)) := e
        rw [← e4, e2]
      have e5 := h.2.2.2.1
      by_cases q1 : q < k
      · rw [if_pos q1] at e3
        have := e5 q k q1 hk1
        omega
      · rw [if_neg q1] at e3
        have := e5 k (q + 1) (by omega) (by omega)
        omega)
    rw [show np - 1 + 1 = np by omega] at h2
    exact h2
theorem inF_4 {sg : Nat → Int32} {n : Nat} {c so he pe f : Int32} : inF sg n c so he pe f 4 = nI (n + 1) := by rw [inF, up_s]
theorem inF_lv {sg : Nat → Int32} {n j : Nat} {c so he pe f : Int32} (h1 : 6 ≤ j) (h2 : j < 86) (h5 : n ≤ 5) : inF sg n c so he pe f j = sg j := inF_no (by omega) (by omega) h5
theorem puF_lv {sg : Nat → Int32} {np j : Nat} {c so he pe f : Int32} (hw : ¬ whyP sg np c so he pe f < 0) (h6 : np ≤ 6) (h4 : j ≠ 4) (h2 : j < 86 ∨ 122 ≤ j) : puF sg np c so he pe f j = sg j := by
  have hno := whyP_ok hw
  unfold puF
  by_cases hk : rkU sg c np = -6
  · rw [if_pos hk]
    exact inF_no h4 h2 (by have : ¬ np = 6 := fun e => hno ⟨hk, e⟩; omega)
  · rw [if_neg hk, inF_no h4 h2 (by omega), lfF_no h4 h2 h6]
theorem BdL.same {sg ro : Nat → Int32} (h : BdL sg) (e : ∀ j, 6 ≤ j → j < 86 → ro j = sg j) : BdL ro := fun c hc => by
  rw [e _ (by omega) (by omega), e _ (by omega) (by omega)]
  exact h c hc
theorem BdL.klevel {sg : Nat → Int32} {t : Nat} {v : Int32} (h : BdL sg) (hv : bd v) : BdL (up sg (6 + t) v) := fun c hc => by
  constructor
  · by_cases e : 6 + c = 6 + t
    · rw [e, up_s]
      exact hv
    · rw [up_n _ _ e]
      exact (h c hc).1
  · by_cases e : 46 + c = 6 + t
    · rw [e, up_s]
      exact hv
    · rw [up_n _ _ e]
      exact (h c hc).2
theorem rdV_bd {tx : Nat → Int32} {pl a e : Nat} {v : Int32} (h : rdV tx pl a = some (v, e)) : bd v := by
  obtain ⟨⟨x, e2⟩, h2, h3⟩ := Option.map_eq_some_iff.mp h
  cases h3
  have h4 := (rdN_in h2).2.2.2
  rw [bd_int]
  have e1 : (nI x).toInt = (x : Int) := nI_toInt (by omega)
  by_cases g : nx tx pl a 45
  · rw [if_pos g, mul_int (by rw [e1, show (-1 : Int32).toInt = -1 by decide]; omega) (by rw [e1, show (-1 : Int32).toInt = -1 by decide]; omega), e1, show (-1 : Int32).toInt = -1 by decide]
    omega
  · rw [if_neg g, Int32.one_mul, e1]
    omega
theorem rdO_bd {tx : Nat → Int32} {pl a e k t s p f : Nat} {v : Int32} (h : rdO tx pl a = (some (k, t, s, v, p, f), e)) : t < 1000 ∧ (k = 108 → bd v) := by
  unfold rdO at h
  by_cases h1 : nx tx pl a 112
  · rw [if_pos h1] at h
    obtain ⟨h2, h3⟩ := Prod.mk.inj h
    obtain ⟨⟨t2, s2, v2, p2, f2⟩, h4, h5⟩ := Option.map_eq_some_iff.mp h2
    cases h5
    refine ⟨?_, fun q => absurd q (by decide)⟩
    unfold rdR at h4
    split at h4
    · cases h4
    · rename_i t a1 e1
      have b1 := rdN_in e1
      have e9 : t2 = t := by
        split at h4
        · cases h4
        · split at h4
          · cases h4
          · split at h4
            · split at h4
              · cases h4
              · split at h4
                · split at h4
                  · cases h4
                  · cases h4
                    rfl
                · cases h4
                  rfl
            · cases h4
      omega
  · rw [if_neg h1] at h
    by_cases h2 : nx tx pl a 108
    · rw [if_pos h2] at h
      split at h
      · cases h
      · rename_i t a1 e1
        have b1 := rdN_in e1
        split at h
        · split at h
          · cases h
          · rename_i v a2 e3
            have b3 := rdV_bd e3
            cases h
            exact ⟨by omega, fun _ => b3⟩
        · cases h
    · rw [if_neg h2] at h
      by_cases h3 : nx tx pl a 120 ∨ nx tx pl a 103 ∨ nx tx pl a 116
      · rw [if_pos h3] at h
        have h4 : ¬ (tx a).toNatClampNeg = 108 := by
          rcases h3 with g | g | g <;> rw [g.2] <;> decide
        split at h
        · cases h
        · rename_i t a1 e1
          have b1 := rdN_in e1
          cases h
          exact ⟨by omega, fun q => absurd q h4⟩
      · rw [if_neg h3] at h
        cases h
/-- a state that calls leave -/
def OkS (sg : Nat → Int32) : Prop := Ok0 sg (nP sg) (nG sg) ∧ BdL sg
theorem OkS.of {sg : Nat → Int32} {np ng : Nat} (h : Ok0 sg np ng) (hb : BdL sg) : OkS sg := ⟨by rw [h.nP, h.nG]; exact h, hb⟩
theorem OkS.kdo {sg : Nat → Int32} {k t s p f : Nat} {v : Int32} (h : OkS sg) (hk : kdO k) (ht : t < 1000) (hv : k = 108 → bd v) (hc : cdF sg k t s v p f = true) : OkS (doF sg k t s v p f) := by
  obtain ⟨ho, hb⟩ := h
  have h6 := ho.1.2
  have h4 := ho.2.1.2
  rcases hk with e | e | e | e | e <;> subst e
  · have c0 : whyP sg (nP sg) (nI t) (nI s) v (nI p) (nI f) = 0 := by simpa [cdF] using hc
    have hw : ¬ whyP sg (nP sg) (nI t) (nI s) v (nI p) (nI f) < 0 := by rw [c0]; decide
    have e : doF sg 112 t s v p f = puF sg (nP sg) (nI t) (nI s) v (nI p) (nI f) := by simp [doF]
    rw [e]
    exact OkS.of (ho.kpu hw) (hb.same fun j h1 h2 => puF_lv hw h6 (by omega) (by omega))
  · have c0 : 0 ≤ nI t ∧ nI t ≤ 39 := by simpa [cdF] using hc
    have e : doF sg 108 t s v p f = up sg (6 + t) v := by simp [doF]
    have t40 : t < 40 := by
      have := (nI_leI (by omega) (by decide)).mp (show nI t ≤ nI 39 from c0.2)
      omega
    rw [e]
    exact OkS.of (ho.klevel t40) (hb.klevel (hv rfl))
  · have c0 : ¬ rkU sg (nI t) (nP sg) = -6 := by simpa [cdF] using hc
    obtain ⟨k2, hk2, e2⟩ := rkU_in c0
    have e : doF sg 120 t s v p f = lfF sg (nP sg) k2 := by
      simp [doF]
      rw [e2, nI_clamp (by omega)]
    rw [e]
    exact OkS.of (ho.klf hk2) (hb.same fun j h1 h2 => lfF_no (by omega) (by omega) h6)
  · have c0 : whyG (nG sg) (nI t) = 0 := by simpa [cdF] using hc
    have e : doF sg 103 t s v p f = cgF sg (nG sg) (nI t) := by simp [doF]
    unfold whyG at c0
    have q1 : 0 ≤ nI t ∧ nI t ≤ 39 := by
      by_cases q : 0 ≤ nI t ∧ nI t ≤ 39
      · exact q
      · rw [if_neg q] at c0
        exact absurd c0 (by decide)
    have q2 : ¬ nG sg = 4 := fun q => by
      rw [if_pos q1, if_pos q] at c0
      exact absurd c0 (by decide)
    have t40 : t < 40 := by
      have := (nI_leI (by omega) (by decide)).mp (show nI t ≤ nI 39 from q1.2)
      omega
    rw [e]
    exact OkS.of (ho.kcg t40 (by omega)) (hb.same fun j h1 h2 => by rw [cgF, up_n _ _ (by omega), cgN, if_neg (by omega)])
  · have e : doF sg 116 t s v p f = psF (nP sg) (nG sg) sg t := by simp [doF]
    rw [e]
    exact OkS.of (ho.kpsF t) (hb.kpsF ho t)
