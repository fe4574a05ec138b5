/-! THE REFERENCE: the best period; undo, save, restore; signs put -/
/-- the farthest level of a cell in i steps -/
def pkN (np ng c : Nat) (sg : Nat → Int32) : Nat → Int32
  | 0 => 0
  | i + 1 => if szI (psF np ng sg (i + 1) (6 + c)) ≤ pkN np ng c sg i then pkN np ng c sg i else szI (psF np ng sg (i + 1) (6 + c))
/-- the best of the first p periods, and how far it takes the cell -/
def bpN (np ng k c m : Nat) (sg : Nat → Int32) : Nat → Int32 × Int32
  | 0 => (-6, -1)
  | p + 1 => if pkN np ng c (up sg (86 + 6 * k + 3) (nI (p + 1))) m ≤ (bpN np ng k c m sg p).2 then bpN np ng k c m sg p else (nI (p + 1), pkN np ng c (up sg (86 + 6 * k + 3) (nI (p + 1))) m)
theorem Ok0.period {sg : Nat → Int32} {np ng k p : Nat} (h : Ok0 sg np ng) (hk : k < np) (h1 : 1 ≤ p) (h2 : p ≤ 60) : Ok0 (up sg (86 + 6 * k + 3) (nI p)) np ng := by
  obtain ⟨⟨a1, a2⟩, ⟨b1, b2⟩, hp, hl, hg, c1, c2, c3⟩ := h
  have e : ∀ j, j ≠ 86 + 6 * k + 3 → up sg (86 + 6 * k + 3) (nI p) j = sg j := fun j hj => up_n _ _ hj
  refine ⟨⟨by rw [e _ (by omega)]; exact a1, a2⟩, ⟨by rw [e _ (by omega)]; exact b1, b2⟩, fun q hq => ?_, fun i j hi hj => ?_, fun g hgn => ?_, by rw [e _ (by omega)]; exact c1, by rw [e _ (by omega)]; exact c2, by rw [e _ (by omega)]; exact c3⟩
  · obtain ⟨d1, d2, d3, d4, d5, d6⟩ := hp q hq
    refine ⟨by rw [e _ (by omega)]; exact d1, by rw [e _ (by omega)]; exact d2, by rw [e _ (by omega)]; exact d3, ?_, by rw [e _ (by omega)]; exact d5, by rw [e _ (by omega)]; exact d6⟩
    by_cases hqk : q = k
    · subst hqk
      exact ⟨p, h1, h2, up_s _ _ _⟩
    · rw [e _ (by omega)]
      exact d4
  · have hl' := hl i j hi hj
    unfold cel at hl' ⊢
    rw [e _ (by omega), e _ (by omega)]
    exact hl'
  · obtain ⟨h1, m, h2, h3, h4⟩ := hg g hgn
    have h4' := b2
    exact ⟨by rw [e _ (by omega)]; exact h1, m, h2, by rw [e _ (by omega)]; exact h3, fun i hi => by rw [e _ (by omega)]; exact h4 i hi⟩
theorem num_in {v : Int32} (h : 1 ≤ v ∧ v ≤ 99) : ∃ k, k < 100 ∧ v = nI k := by
  have e1 : (1 : Int32).toInt = 1 := by decide
  have e0 : (0 : Int32).toInt = 0 := by decide
  have h0 : ¬ v < 0 := by
    have := h.1
    simp only [Int32.le_iff_toInt_le, Int32.lt_iff_toInt_lt] at *
    omega
  obtain ⟨j, h1, h2⟩ := nI_of2 (M := 99) (n := 99) (by decide) h0 h.2
  exact ⟨j, by omega, h2⟩

set_option maxRecDepth 100000 in
set_option maxHeartbeats 4000000 in
theorem s_X6_bestPeriod {γ : Gm} {l : Launch} {M : Mm} {R : Rm} {K : KT} {np ng : Nat} {k0 c0 m0 z : Int32} {sg : Nat → Int32} (hs : M 236 = sg) (hM : RM R) (ho : Ok0 sg np ng) (hE1 : ¬ ((0 ≤ k0 ∧ k0 < nI np) ∧ (0 ≤ c0 ∧ c0 ≤ 39)) → K (some (.int (-1))) 243 M R) (hE2 : ((0 ≤ k0 ∧ k0 < nI np) ∧ (0 ≤ c0 ∧ c0 ≤ 39)) → ¬ ((1 ≤ m0 ∧ m0 ≤ 99) ∧ (0 ≤ z ∧ z ≤ 1)) → K (some (.int (-2))) 243 M R) (hK : ∀ k c m, k < np → c < 40 → m < 100 → k0 = nI k → c0 = nI c → m0 = nI m → (0 ≤ z ∧ z ≤ 1) → ∀ X, K (some (.int (if z = 0 then (bpN np ng k c m sg 60).1 else (bpN np ng k c m sg 60).2))) 243 (up M 237 X) R) : CL γ l mX6_bestPeriod 4 243 243 [.ref 235, .int k0, .int c0, .int m0, .int z] M R K := by
  show WP γ l mX6_bestPeriod 4 243 243 0 [some (.ref 235), some (.int k0), some (.int c0), some (.int m0), some (.int z), none, none, none, none, none] [] 243 M R K
  refine wp_aload_n dX6_bestPeriod_0 rfl ?_
  refine wp_iload_n dX6_bestPeriod_1 rfl ?_
  refine wp_cV1 (z := mX6_isRank) (n' := 243) kX6_125 dX6_bestPeriod_2 (Nat.le_of_ble_eq_true rfl) (Nat.le_of_ble_eq_true rfl) tA_235 (Nat.le_of_ble_eq_true rfl) (Nat.le_of_ble_eq_true rfl) (Nat.le_refl _) (Nat.le_refl _) (s_X6_isRank hs hM ho.1.1 (by have := ho.1.2; omega) (wp_af ?_))
  refine wp_bq_eq (tgt := 15) dX6_bestPeriod_5 (by decide) (fun h5 => ?_) (fun h5 => ?_)
  · refine wp_iconst (v := (-1)) dX6_bestPeriod_15 (by decide) ?_
    exact wp_iret dX6_bestPeriod_16 rfl rfl rfl (hE1 (fun h => by first | exact h5 h.1 | exact h12 h.2))
  · refine wp_iload_n dX6_bestPeriod_8 rfl ?_
    refine wp_cS1 (z := mX6_isCell) (n' := 243) kX6_102 dX6_bestPeriod_9 (Nat.le_of_ble_eq_true rfl) (Nat.le_of_ble_eq_true rfl) (Nat.le_of_ble_eq_true rfl) (Nat.le_refl _) (Nat.le_refl _) (s_X6_isCell (wp_af ?_))
    refine wp_bq_ne (tgt := 17) dX6_bestPeriod_12 (by decide) (fun h12 => ?_) (fun h12 => ?_)
    · refine wp_iload_n dX6_bestPeriod_17 rfl ?_
      refine wp_iconst (v := 1) dX6_bestPeriod_18 (by decide) ?_
      refine wp_bipush (v := 99) dX6_bestPeriod_19 (by decide) ?_
      refine wp_cS3 (z := mX6_within) (n' := 243) kX6_39 dX6_bestPeriod_21 (Nat.le_of_ble_eq_true rfl) (Nat.le_of_ble_eq_true rfl) (Nat.le_of_ble_eq_true rfl) (Nat.le_refl _) (Nat.le_refl _) (s_X6_within (wp_af ?_))
      refine wp_bq_eq (tgt := 37) dX6_bestPeriod_24 (by decide) (fun h24 => ?_) (fun h24 => ?_)
      · refine wp_bipush (v := (-2)) dX6_bestPeriod_37 (by decide) ?_
        exact wp_iret dX6_bestPeriod_39 rfl rfl rfl (hE2 ⟨h5, h12⟩ (fun h => by first | exact h24 h.1 | exact h34 h.2))
      · refine wp_iload dX6_bestPeriod_27 rfl ?_
        refine wp_iconst (v := 0) dX6_bestPeriod_29 (by decide) ?_
        refine wp_iconst (v := 1) dX6_bestPeriod_30 (by decide) ?_
        refine wp_cS3 (z := mX6_within) (n' := 243) kX6_39 dX6_bestPeriod_31 (Nat.le_of_ble_eq_true rfl) (Nat.le_of_ble_eq_true rfl) (Nat.le_of_ble_eq_true rfl) (Nat.le_refl _) (Nat.le_refl _) (s_X6_within (wp_af ?_))
        refine wp_bq_ne (tgt := 40) dX6_bestPeriod_34 (by decide) (fun h34 => ?_) (fun h34 => ?_)
        · refine wp_aload_n dX6_bestPeriod_40 rfl ?_
          refine wp_getQ fX6_7 tA_235 rfl hM.f0 (by decide) (Nat.le_of_ble_eq_true rfl) dX6_bestPeriod_41 ?_
          refine wp_iconst (v := 0) dX6_bestPeriod_44 (by decide) ?_
          refine wp_aload_n dX6_bestPeriod_45 rfl ?_
          refine wp_getQ fX6_13 tA_235 rfl hM.f1 (by decide) (Nat.le_of_ble_eq_true rfl) dX6_bestPeriod_46 ?_
          refine wp_iconst (v := 0) dX6_bestPeriod_49 (by decide) ?_
          refine wp_cS4 (z := mX6_moves) (n' := 243) kX6_35 dX6_bestPeriod_50 (Nat.le_of_ble_eq_true rfl) (Nat.le_of_ble_eq_true rfl) (Nat.le_of_ble_eq_true rfl) (Nat.le_refl _) (Nat.le_refl _) (s_X6_moves (a := 236) (b := 237) (f := 0) (t := 0) tA_236 tA_237 (Nat.le_of_ble_eq_true rfl) (Nat.le_of_ble_eq_true rfl) (Nat.le_of_ble_eq_true rfl) (Nat.le_of_ble_eq_true rfl) (by decide) (by rw [lA_236]; omega) (by rw [lA_237]; omega) (wp_af0 ?_))
          obtain ⟨k, hk, e_k⟩ := rank_in (by have := ho.1.2; omega) h5
          obtain ⟨c, hc, e_c⟩ := cell_in h12
          obtain ⟨m, hm, e_m⟩ := num_in h24
          subst e_k e_c e_m
          have hK := hK k c m hk hc hm rfl rfl rfl h34
          obtain ⟨X, hX⟩ : ∃ X, X = va_cpy sg (M 237) 0 0 370 := ⟨_, rfl⟩
          have hK := hK X
          have h6 := ho.1.2
          rw [hs, ← hX]
          have s1 : (up M 237 X) 236 = sg := by rw [up_n _ _ (by decide)]; exact hs
          have outer : ∀ (q p : Nat) (fd ms : Int32) (t1 t2 : Option Value), q + p = 60 → (fd, ms) = bpN np ng k c m sg p → WP γ l mX6_bestPeriod 4 243 243 63 [some (.ref 235), some (.int (nI k)), some (.int (nI c)), some (.int (nI m)), some (.int z), some (.int fd), some (.int ms), some (.int (nI (p + 1))), t1, t2] [] 243 (up M 237 X) R K := by
            intro q
            induction q with
            | zero =>
              intro p0 fd ms t1 t2 hq hbp
              obtain rfl : p0 = 60 := by omega
              refine wp_drop [some (.ref 235), some (.int (nI k)), some (.int (nI c)), some (.int (nI m)), some (.int z), some (.int fd), some (.int ms), some (.int (nI (60 + 1))), none, none] (by simp [leL]) ?_
              refine wp_iload dX6_bestPeriod_63 rfl ?_
              refine wp_bipush (v := 60) dX6_bestPeriod_65 (by decide) ?_
              refine wp_icN_gt (a := (60 + 1)) (b := 60) (tgt := 180) dX6_bestPeriod_67 (by decide) rfl rfl (by omega) (by omega) (fun h67 => ?_) (fun h67 => absurd h67 (by decide))
              refine wp_iload dX6_bestPeriod_180 rfl ?_
              refine wp_if_ne (tgt := 190) dX6_bestPeriod_182 (by decide) (fun h182 => ?_) (fun h182 => ?_)
              · refine wp_iload dX6_bestPeriod_190 rfl ?_
                exact wp_iret dX6_bestPeriod_192 rfl rfl rfl (by rw [← hbp] at hK; first | (rw [if_neg h182] at hK; exact hK) | (rw [if_pos (Decidable.not_not.mp h182)] at hK; exact hK) | (rw [if_pos h182] at hK; exact hK))
              · refine wp_iload dX6_bestPeriod_185 rfl ?_
                refine wp_goto (tgt := 192) dX6_bestPeriod_187 (by decide) ?_
                exact wp_iret dX6_bestPeriod_192 rfl rfl rfl (by rw [← hbp] at hK; first | (rw [if_neg h182] at hK; exact hK) | (rw [if_pos (Decidable.not_not.mp h182)] at hK; exact hK) | (rw [if_pos h182] at hK; exact hK))
            | succ q ih =>
              intro p0 fd ms t1 t2 hq hbp
              obtain ⟨p, hp⟩ : ∃ p, p = p0 + 1 := ⟨_, rfl⟩
              obtain ⟨sp, hsp⟩ : ∃ sp, sp = up sg (86 + 6 * k + 3) (nI p) := ⟨_, rfl⟩
              have hop : Ok0 sp np ng := by rw [hsp]; exact ho.period hk (by omega) (by omega)
              have hms : (bpN np ng k c m sg p0).2 = ms := by rw [← hbp]
              have next : ∀ fd' ms' t1 t2, (fd', ms') = bpN np ng k c m sg (p0 + 1) → WP γ l mX6_bestPeriod 4 243 243 63 [some (.ref 235), some (.int (nI k)), some (.int (nI c)), some (.int (nI m)), some (.int z), some (.int fd'), some (.int ms'), some (.int (nI (p + 1))), t1, t2] [] 243 (up M 237 X) R K := fun fd' ms' t1 t2 h => hp ▸ ih (p0 + 1) fd' ms' t1 t2 (by omega) h
              rw [← hp]
              refine wp_drop [some (.ref 235), some (.int (nI k)), some (.int (nI c)), some (.int (nI m)), some (.int z), some (.int fd), some (.int ms), some (.int (nI p)), none, none] (by simp [leL]) ?_
              have inner : ∀ (f i : Nat) (pk : Int32) (ro : Nat → Int32), f + i = m → ro = psF np ng sp i → pk = pkN np ng c sp i → WP γ l mX6_bestPeriod 4 243 243 84 [some (.ref 235), some (.int (nI k)), some (.int (nI c)), some (.int (nI m)), some (.int z), some (.int fd), some (.int ms), some (.int (nI p)), some (.int pk), some (.int (nI i))] [] 243 (up (up M 237 X) 236 ro) R K := by
                intro f
                induction f with
                | zero =>
                  intro i pk ro hf hro hpk
                  have hi : i = m := by omega
                  rw [hi] at hpk
                  have hri : ∀ j, 370 ≤ j → ro j = sg j := fun j hj => by rw [hro, psF_hi hop hj i, hsp, up_n _ _ (by omega)]
                  refine wp_iload dX6_bestPeriod_84 rfl ?_
                  refine wp_iload_n dX6_bestPeriod_86 rfl ?_
                  refine wp_icN_ge (a := i) (b := m) (tgt := 129) dX6_bestPeriod_87 (by decide) rfl rfl (by omega) (by omega) (fun h87 => ?_) (fun h87 => absurd h87 (by omega))
                  refine wp_aload_n dX6_bestPeriod_129 rfl ?_
                  refine wp_getQ fX6_13 tA_235 rfl hM.f1 (by decide) (Nat.le_of_ble_eq_true rfl) dX6_bestPeriod_130 ?_
                  refine wp_iconst (v := 0) dX6_bestPeriod_133 (by decide) ?_
                  refine wp_aload_n dX6_bestPeriod_134 rfl ?_
                  refine wp_getQ fX6_7 tA_235 rfl hM.f0 (by decide) (Nat.le_of_ble_eq_true rfl) dX6_bestPeriod_135 ?_
                  refine wp_iconst (v := 0) dX6_bestPeriod_138 (by decide) ?_
                  refine wp_cS4 (z := mX6_moves) (n' := 243) kX6_35 dX6_bestPeriod_139 (Nat.le_of_ble_eq_true rfl) (Nat.le_of_ble_eq_true rfl) (Nat.le_of_ble_eq_true rfl) (Nat.le_refl _) (Nat.le_refl _) (s_X6_moves (a := 237) (b := 236) (f := 0) (t := 0) tA_237 tA_236 (Nat.le_of_ble_eq_true rfl) (Nat.le_of_ble_eq_true rfl) (Nat.le_of_ble_eq_true rfl) (Nat.le_of_ble_eq_true rfl) (by decide) (by rw [lA_237]; omega) (by rw [lA_236]; omega) (wp_af0 ?_))
                  refine wp_mem (M' := up M 237 X) (by rw [show (up (up M 237 X) 236 ro) 237 = X by rw [up_n _ _ (by decide), up_s], up_s]; exact kept_back hs hX hri) ?_
                  refine wp_iload dX6_bestPeriod_142 rfl ?_
                  refine wp_iload dX6_bestPeriod_144 rfl ?_
                  refine wp_icmp_le (tgt := 154) dX6_bestPeriod_146 (by decide) (fun h146 => ?_) (fun h146 => ?_)
                  · rw [hpk] at h146
                    refine wp_iload dX6_bestPeriod_154 rfl ?_
                    refine wp_istore (L' := [some (.ref 235), some (.int (nI k)), some (.int (nI c)), some (.int (nI m)), some (.int z), some (.int fd), some (.int ms), some (.int (nI p)), some (.int pk), some (.int (nI i))]) dX6_bestPeriod_156 (by decide) rfl ?_
                    refine wp_iload dX6_bestPeriod_158 rfl ?_
                    refine wp_iload dX6_bestPeriod_160 rfl ?_
                    refine wp_icmp_le (tgt := 170) dX6_bestPeriod_162 (by decide) (fun h162 => ?_) (fun h162 => ?_)
                    · rw [hpk] at h162
                      refine wp_iload dX6_bestPeriod_170 rfl ?_
                      refine wp_istore (L' := [some (.ref 235), some (.int (nI k)), some (.int (nI c)), some (.int (nI m)), some (.int z), some (.int fd), some (.int ms), some (.int (nI p)), some (.int pk), some (.int (nI i))]) dX6_bestPeriod_172 (by decide) rfl ?_
                      refine wp_iinc (v := nI (p + 1)) (L' := [some (.ref 235), some (.int (nI k)), some (.int (nI c)), some (.int (nI m)), some (.int z), some (.int fd), some (.int ms), some (.int (nI (p + 1))), some (.int pk), some (.int (nI i))]) dX6_bestPeriod_174 (by decide) rfl (inc_1 _) rfl ?_
                      refine wp_goto (tgt := 63) dX6_bestPeriod_177 (by decide) ?_
                      first
                        | exact absurd h146 h162
                        | exact absurd h162 h146
                        | exact next _ _ _ _ (by rw [bpN, ← hp, ← hsp, hms, if_pos h146, ← hbp])
                        | exact next _ _ _ _ (by rw [bpN, ← hp, ← hsp, hms, if_neg h146, hpk])
                    · rw [hpk] at h162
                      refine wp_iload dX6_bestPeriod_165 rfl ?_
                      refine wp_goto (tgt := 172) dX6_bestPeriod_167 (by decide) ?_
                      refine wp_istore (L' := [some (.ref 235), some (.int (nI k)), some (.int (nI c)), some (.int (nI m)), some (.int z), some (.int fd), some (.int pk), some (.int (nI p)), some (.int pk), some (.int (nI i))]) dX6_bestPeriod_172 (by decide) rfl ?_
                      refine wp_iinc (v := nI (p + 1)) (L' := [some (.ref 235), some (.int (nI k)), some (.int (nI c)), some (.int (nI m)), some (.int z), some (.int fd), some (.int pk), some (.int (nI (p + 1))), some (.int pk), some (.int (nI i))]) dX6_bestPeriod_174 (by decide) rfl (inc_1 _) rfl ?_
                      refine wp_goto (tgt := 63) dX6_bestPeriod_177 (by decide) ?_
                      first
                        | exact absurd h146 h162
                        | exact absurd h162 h146
                        | exact next _ _ _ _ (by rw [bpN, ← hp, ← hsp, hms, if_pos h146, ← hbp])
                        | exact next _ _ _ _ (by rw [bpN, ← hp, ← hsp, hms, if_neg h146, hpk])
                  · rw [hpk] at h146
                    refine wp_iload dX6_bestPeriod_149 rfl ?_
                    refine wp_goto (tgt := 156) dX6_bestPeriod_151 (by decide) ?_
                    refine wp_istore (L' := [some (.ref 235), some (.int (nI k)), some (.int (nI c)), some (.int (nI m)), some (.int z), some (.int (nI p)), some (.int ms), some (.int (nI p)), some (.int pk), some (.int (nI i))]) dX6_bestPeriod_156 (by decide) rfl ?_
                    refine wp_iload dX6_bestPeriod_158 rfl ?_
                    refine wp_iload dX6_bestPeriod_160 rfl ?_
                    refine wp_icmp_le (tgt := 170) dX6_bestPeriod_162 (by decide) (fun h162 => ?_) (fun h162 => ?_)
                    · rw [hpk] at h162
                      refine wp_iload dX6_bestPeriod_170 rfl ?_
                      refine wp_istore (L' := [some (.ref 235), some (.int (nI k)), some (.int (nI c)), some (.int (nI m)), some (.int z), some (.int (nI p)), some (.int ms), some (.int (nI p)), some (.int pk), some (.int (nI i))]) dX6_bestPeriod_172 (by decide) rfl ?_
                      refine wp_iinc (v := nI (p + 1)) (L' := [some (.ref 235), some (.int (nI k)), some (.int (nI c)), some (.int (nI m)), some (.int z), some (.int (nI p)), some (.int ms), some (.int (nI (p + 1))), some (.int pk), some (.int (nI i))]) dX6_bestPeriod_174 (by decide) rfl (inc_1 _) rfl ?_
                      refine wp_goto (tgt := 63) dX6_bestPeriod_177 (by decide) ?_
                      first
                        | exact absurd h146 h162
                        | exact absurd h162 h146
                        | exact next _ _ _ _ (by rw [bpN, ← hp, ← hsp, hms, if_pos h146, ← hbp])
                        | exact next _ _ _ _ (by rw [bpN, ← hp, ← hsp, hms, if_neg h146, hpk])
                    · rw [hpk] at h162
                      refine wp_iload dX6_bestPeriod_165 rfl ?_
                      refine wp_goto (tgt := 172) dX6_bestPeriod_167 (by decide) ?_
                      refine wp_istore (L' := [some (.ref 235), some (.int (nI k)), some (.int (nI c)), some (.int (nI m)), some (.int z), some (.int (nI p)), some (.int pk), some (.int (nI p)), some (.int pk), some (.int (nI i))]) dX6_bestPeriod_172 (by decide) rfl ?_
                      refine wp_iinc (v := nI (p + 1)) (L' := [some (.ref 235), some (.int (nI k)), some (.int (nI c)), some (.int (nI m)), some (.int z), some (.int (nI p)), some (.int pk), some (.int (nI (p + 1))), some (.int pk), some (.int (nI i))]) dX6_bestPeriod_174 (by decide) rfl (inc_1 _) rfl ?_
                      refine wp_goto (tgt := 63) dX6_bestPeriod_177 (by decide) ?_
                      first
                        | exact absurd h146 h162
                        | exact absurd h162 h146
                        | exact next _ _ _ _ (by rw [bpN, ← hp, ← hsp, hms, if_pos h146, ← hbp])
                        | exact next _ _ _ _ (by rw [bpN, ← hp, ← hsp, hms, if_neg h146, hpk])
                | succ f ih =>
                  intro i pk ro hf hro hpk
                  have hoi : Ok0 ro np ng := by rw [hro]; exact hop.kpsF i
                  refine wp_iload dX6_bestPeriod_84 rfl ?_
                  refine wp_iload_n dX6_bestPeriod_86 rfl ?_
                  refine wp_icN_ge (a := i) (b := m) (tgt := 129) dX6_bestPeriod_87 (by decide) rfl rfl (by omega) (by omega) (fun h87 => absurd h87 (by omega)) (fun h87 => ?_)
                  refine wp_aload_n dX6_bestPeriod_90 rfl ?_
                  refine wp_cV0 (z := mX6_step) (n' := 243) kX6_77 dX6_bestPeriod_91 (Nat.le_of_ble_eq_true rfl) (Nat.le_of_ble_eq_true rfl) tA_235 (Nat.le_of_ble_eq_true rfl) (Nat.le_of_ble_eq_true rfl) (Nat.le_refl _) (Nat.le_refl _) (s_X6_step (show (up (up M 237 X) 236 ro) 236 = ro from up_s _ _ _) hM hoi (wp_af ?_))
                  refine wp_mem (up_up _ _ _ _) ?_
                  refine wp_pop dX6_bestPeriod_94 rfl ?_
                  refine wp_aload_n dX6_bestPeriod_95 rfl ?_
                  refine wp_iload_n dX6_bestPeriod_96 rfl ?_
                  refine wp_cV1 (z := mX6_levelOf) (n' := 243) kX6_47 dX6_bestPeriod_97 (Nat.le_of_ble_eq_true rfl) (Nat.le_of_ble_eq_true rfl) tA_235 (Nat.le_of_ble_eq_true rfl) (Nat.le_of_ble_eq_true rfl) (Nat.le_refl _) (Nat.le_refl _) (s_X6_levelOf (up_s _ _ _) (c := c) hM hc (wp_af ?_))
                  refine wp_cS1 (z := mX6_size) (n' := 243) kX6_51 dX6_bestPeriod_100 (Nat.le_of_ble_eq_true rfl) (Nat.le_of_ble_eq_true rfl) (Nat.le_of_ble_eq_true rfl) (Nat.le_refl _) (Nat.le_refl _) (s_X6_size (wp_af ?_))
                  refine wp_iload dX6_bestPeriod_103 rfl ?_
                  refine wp_icmp_le (tgt := 119) dX6_bestPeriod_105 (by decide) (fun h105 => ?_) (fun h105 => ?_)
                  · have g105 : szI (psF np ng sp (i + 1) (6 + c)) ≤ pkN np ng c sp i := by rw [hro, hpk] at h105; exact h105
                    refine wp_iload dX6_bestPeriod_119 rfl ?_
                    refine wp_istore (L' := [some (.ref 235), some (.int (nI k)), some (.int (nI c)), some (.int (nI m)), some (.int z), some (.int fd), some (.int ms), some (.int (nI p)), some (.int pk), some (.int (nI i))]) dX6_bestPeriod_121 (by decide) rfl ?_
                    refine wp_iinc (v := nI (i + 1)) (L' := [some (.ref 235), some (.int (nI k)), some (.int (nI c)), some (.int (nI m)), some (.int z), some (.int fd), some (.int ms), some (.int (nI p)), some (.int pk), some (.int (nI (i + 1)))]) dX6_bestPeriod_123 (by decide) rfl (inc_1 _) rfl ?_
                    refine wp_goto (tgt := 84) dX6_bestPeriod_126 (by decide) ?_
                    exact ih (i + 1) _ _ (by omega) (by rw [hro]; rfl) (by rw [pkN]; first | rw [if_pos g105, hpk] | rw [if_neg g105, hro]; rfl)
                  · have g105 : ¬ szI (psF np ng sp (i + 1) (6 + c)) ≤ pkN np ng c sp i := by rw [hro, hpk] at h105; exact h105
                    refine wp_aload_n dX6_bestPeriod_108 rfl ?_
                    refine wp_iload_n dX6_bestPeriod_109 rfl ?_
                    refine wp_cV1 (z := mX6_levelOf) (n' := 243) kX6_47 dX6_bestPeriod_110 (Nat.le_of_ble_eq_true rfl) (Nat.le_of_ble_eq_true rfl) tA_235 (Nat.le_of_ble_eq_true rfl) (Nat.le_of_ble_eq_true rfl) (Nat.le_refl _) (Nat.le_refl _) (s_X6_levelOf (up_s _ _ _) (c := c) hM hc (wp_af ?_))
                    refine wp_cS1 (z := mX6_size) (n' := 243) kX6_51 dX6_bestPeriod_113 (Nat.le_of_ble_eq_true rfl) (Nat.le_of_ble_eq_true rfl) (Nat.le_of_ble_eq_true rfl) (Nat.le_refl _) (Nat.le_refl _) (s_X6_size (wp_af ?_))
                    refine wp_goto (tgt := 121) dX6_bestPeriod_116 (by decide) ?_
                    refine wp_istore (L' := [some (.ref 235), some (.int (nI k)), some (.int (nI c)), some (.int (nI m)), some (.int z), some (.int fd), some (.int ms), some (.int (nI p)), some (.int _), some (.int (nI i))]) dX6_bestPeriod_121 (by decide) rfl ?_
                    refine wp_iinc (v := nI (i + 1)) (L' := [some (.ref 235), some (.int (nI k)), some (.int (nI c)), some (.int (nI m)), some (.int z), some (.int fd), some (.int ms), some (.int (nI p)), some (.int _), some (.int (nI (i + 1)))]) dX6_bestPeriod_123 (by decide) rfl (inc_1 _) rfl ?_
                    refine wp_goto (tgt := 84) dX6_bestPeriod_126 (by decide) ?_
                    exact ih (i + 1) _ _ (by omega) (by rw [hro]; rfl) (by rw [pkN]; first | rw [if_pos g105, hpk] | rw [if_neg g105, hro]; rfl)
              refine wp_iload dX6_bestPeriod_63 rfl ?_
              refine wp_bipush (v := 60) dX6_bestPeriod_65 (by decide) ?_
              refine wp_icN_gt (a := p) (b := 60) (tgt := 180) dX6_bestPeriod_67 (by decide) rfl rfl (by omega) (by omega) (fun h67 => absurd h67 (by omega)) (fun h67 => ?_)
              refine wp_aload_n dX6_bestPeriod_70 rfl ?_
              refine wp_iload_n dX6_bestPeriod_71 rfl ?_
              refine wp_iconst (v := 3) dX6_bestPeriod_72 (by decide) ?_
              refine wp_iload dX6_bestPeriod_73 rfl ?_
              refine wp_cV3 (z := mX6_setPaddle) (n' := 243) kX6_54 dX6_bestPeriod_75 (Nat.le_of_ble_eq_true rfl) (Nat.le_of_ble_eq_true rfl) tA_235 (Nat.le_of_ble_eq_true rfl) (Nat.le_of_ble_eq_true rfl) (Nat.le_refl _) (Nat.le_refl _) (s_X6_setPaddle s1 hM (j := 3) (by omega) (by decide) (wp_af0 ?_))
              refine wp_iconst (v := 0) dX6_bestPeriod_78 (by decide) ?_
              refine wp_istore (L' := [some (.ref 235), some (.int (nI k)), some (.int (nI c)), some (.int (nI m)), some (.int z), some (.int fd), some (.int ms), some (.int (nI p)), some (.int _), none]) dX6_bestPeriod_79 (by decide) rfl ?_
              refine wp_iconst (v := 0) dX6_bestPeriod_81 (by decide) ?_
              refine wp_istore (L' := [some (.ref 235), some (.int (nI k)), some (.int (nI c)), some (.int (nI m)), some (.int z), some (.int fd), some (.int ms), some (.int (nI p)), some (.int _), some (.int _)]) dX6_bestPeriod_82 (by decide) rfl ?_
              refine wp_mem (M' := up (up M 237 X) 236 sp) (by rw [hsp]) ?_
              exact inner m 0 0 sp rfl rfl rfl
          refine wp_bipush (v := (-6)) dX6_bestPeriod_53 (by decide) ?_
          refine wp_istore (L' := [some (.ref 235), some (.int (nI k)), some (.int (nI c)), some (.int (nI m)), some (.int z), some (.int (-6)), none, none, none, none]) dX6_bestPeriod_55 (by decide) rfl ?_
          refine wp_iconst (v := (-1)) dX6_bestPeriod_57 (by decide) ?_
          refine wp_istore (L' := [some (.ref 235), some (.int (nI k)), some (.int (nI c)), some (.int (nI m)), some (.int z), some (.int (-6)), some (.int (-1)), none, none, none]) dX6_bestPeriod_58 (by decide) rfl ?_
          refine wp_iconst (v := 1) dX6_bestPeriod_60 (by decide) ?_
          refine wp_istore (L' := [some (.ref 235), some (.int (nI k)), some (.int (nI c)), some (.int (nI m)), some (.int z), some (.int (-6)), some (.int (-1)), some (.int _), none, none]) dX6_bestPeriod_61 (by decide) rfl ?_
          exact outer 60 0 _ _ _ _ rfl rfl
        · refine wp_bipush (v := (-2)) dX6_bestPeriod_37 (by decide) ?_
          exact wp_iret dX6_bestPeriod_39 rfl rfl rfl (hE2 ⟨h5, h12⟩ (fun h => by first | exact h24 h.1 | exact h34 h.2))
    · refine wp_iconst (v := (-1)) dX6_bestPeriod_15 (by decide) ?_
      exact wp_iret dX6_bestPeriod_16 rfl rfl rfl (hE1 (fun h => by first | exact h5 h.1 | exact h12 h.2))

