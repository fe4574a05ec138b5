/-! THE CLASS: crests, troughs, the last uneven cell -/
set_option maxRecDepth 100000 in
set_option maxHeartbeats 4000000 in
theorem s_X4_isCrest {γ : Gm} {l : Launch} {M : Mm} {R : Rm} {K : KT} {b np ng : Nat} {sg : Nat → Int32} {c : Nat}  (hT : Tb b) (hR : RT R b) (hk : Tk M R b np ng sg) (hc : c < 40) (hK : K (some (.int (crest sg c))) 247 M R) : CL γ l mX4_isCrest 0 247 247 [.ref b, .int (nI c)] M R K := by
  show WP γ l mX4_isCrest 0 247 247 0 [some (.ref b), some (.int (nI c))] [] 247 M R K
  refine wp_iload_n dX4_isCrest_0 rfl ?_
  refine wp_iconst (v := 1) dX4_isCrest_1 (by decide) ?_
  refine wp_icN_lt (a := c) (b := 1) (tgt := 49) dX4_isCrest_2 (by decide) rfl rfl (by omega) (by omega) (fun h2 => ?_) (fun h2 => ?_)
  · refine wp_iconst (v := 0) dX4_isCrest_49 (by decide) ?_
    exact wp_iret dX4_isCrest_50 rfl rfl rfl (by
      unfold crest at hK
      first
        | (rw [if_pos ⟨⟨by omega, by omega⟩, Int32.not_le.mp h25, Int32.not_le.mp h42⟩] at hK; exact hK)
        | (rw [if_neg (fun h => absurd h.1 (by omega))] at hK; exact hK)
        | (rw [if_neg (fun h => Int32.not_le.mpr h.2.1 h25)] at hK; exact hK)
        | (rw [if_neg (fun h => Int32.not_le.mpr h.2.2 h42)] at hK; exact hK))
  · refine wp_iload_n dX4_isCrest_5 rfl ?_
    refine wp_bipush (v := 39) dX4_isCrest_6 (by decide) ?_
    refine wp_icN_ge (a := c) (b := 39) (tgt := 49) dX4_isCrest_8 (by decide) rfl rfl (by omega) (by omega) (fun h8 => ?_) (fun h8 => ?_)
    · refine wp_iconst (v := 0) dX4_isCrest_49 (by decide) ?_
      exact wp_iret dX4_isCrest_50 rfl rfl rfl (by
      unfold crest at hK
      first
        | (rw [if_pos ⟨⟨by omega, by omega⟩, Int32.not_le.mp h25, Int32.not_le.mp h42⟩] at hK; exact hK)
        | (rw [if_neg (fun h => absurd h.1 (by omega))] at hK; exact hK)
        | (rw [if_neg (fun h => Int32.not_le.mpr h.2.1 h25)] at hK; exact hK)
        | (rw [if_neg (fun h => Int32.not_le.mpr h.2.2 h42)] at hK; exact hK))
    · refine wp_aload_n dX4_isCrest_11 rfl ?_
      refine wp_getQ fX4_23 hT.t0.1 rfl hR.f1 (by omega) (by have := hT.lt; omega) dX4_isCrest_12 ?_
      refine wp_iload_n dX4_isCrest_15 rfl ?_
      refine wp_iadn (i := c) rfl hT.t2.1 (by have := hT.lt; omega) (by rw [hT.t2.2]; omega) (by have := hT.lt; omega) dX4_isCrest_16 (hk.clev (by omega)) ?_
      refine wp_aload_n dX4_isCrest_17 rfl ?_
      refine wp_getQ fX4_23 hT.t0.1 rfl hR.f1 (by omega) (by have := hT.lt; omega) dX4_isCrest_18 ?_
      refine wp_iload_n dX4_isCrest_21 rfl ?_
      refine wp_iconst (v := 1) dX4_isCrest_22 (by decide) ?_
      refine wp_isub dX4_isCrest_23 ?_
      refine wp_iadn (i := (c - 1)) (ix_sub (a := c) (b := 1) rfl rfl (by omega)) hT.t2.1 (by have := hT.lt; omega) (by rw [hT.t2.2]; omega) (by have := hT.lt; omega) dX4_isCrest_24 (hk.clev (by omega)) ?_
      refine wp_icmp_le (tgt := 49) dX4_isCrest_25 (by decide) (fun h25 => ?_) (fun h25 => ?_)
      · refine wp_iconst (v := 0) dX4_isCrest_49 (by decide) ?_
        exact wp_iret dX4_isCrest_50 rfl rfl rfl (by
      unfold crest at hK
      first
        | (rw [if_pos ⟨⟨by omega, by omega⟩, Int32.not_le.mp h25, Int32.not_le.mp h42⟩] at hK; exact hK)
        | (rw [if_neg (fun h => absurd h.1 (by omega))] at hK; exact hK)
        | (rw [if_neg (fun h => Int32.not_le.mpr h.2.1 h25)] at hK; exact hK)
        | (rw [if_neg (fun h => Int32.not_le.mpr h.2.2 h42)] at hK; exact hK))
      · refine wp_aload_n dX4_isCrest_28 rfl ?_
        refine wp_getQ fX4_23 hT.t0.1 rfl hR.f1 (by omega) (by have := hT.lt; omega) dX4_isCrest_29 ?_
        refine wp_iload_n dX4_isCrest_32 rfl ?_
        refine wp_iadn (i := c) rfl hT.t2.1 (by have := hT.lt; omega) (by rw [hT.t2.2]; omega) (by have := hT.lt; omega) dX4_isCrest_33 (hk.clev (by omega)) ?_
        refine wp_aload_n dX4_isCrest_34 rfl ?_
        refine wp_getQ fX4_23 hT.t0.1 rfl hR.f1 (by omega) (by have := hT.lt; omega) dX4_isCrest_35 ?_
        refine wp_iload_n dX4_isCrest_38 rfl ?_
        refine wp_iconst (v := 1) dX4_isCrest_39 (by decide) ?_
        refine wp_iadd dX4_isCrest_40 ?_
        refine wp_iadn (i := (c + 1)) (ix_add rfl rfl) hT.t2.1 (by have := hT.lt; omega) (by rw [hT.t2.2]; omega) (by have := hT.lt; omega) dX4_isCrest_41 (hk.clev (by omega)) ?_
        refine wp_icmp_le (tgt := 49) dX4_isCrest_42 (by decide) (fun h42 => ?_) (fun h42 => ?_)
        · refine wp_iconst (v := 0) dX4_isCrest_49 (by decide) ?_
          exact wp_iret dX4_isCrest_50 rfl rfl rfl (by
      unfold crest at hK
      first
        | (rw [if_pos ⟨⟨by omega, by omega⟩, Int32.not_le.mp h25, Int32.not_le.mp h42⟩] at hK; exact hK)
        | (rw [if_neg (fun h => absurd h.1 (by omega))] at hK; exact hK)
        | (rw [if_neg (fun h => Int32.not_le.mpr h.2.1 h25)] at hK; exact hK)
        | (rw [if_neg (fun h => Int32.not_le.mpr h.2.2 h42)] at hK; exact hK))
        · refine wp_iconst (v := 1) dX4_isCrest_45 (by decide) ?_
          refine wp_goto (tgt := 50) dX4_isCrest_46 (by decide) ?_
          exact wp_iret dX4_isCrest_50 rfl rfl rfl (by
      unfold crest at hK
      first
        | (rw [if_pos ⟨⟨by omega, by omega⟩, Int32.not_le.mp h25, Int32.not_le.mp h42⟩] at hK; exact hK)
        | (rw [if_neg (fun h => absurd h.1 (by omega))] at hK; exact hK)
        | (rw [if_neg (fun h => Int32.not_le.mpr h.2.1 h25)] at hK; exact hK)
        | (rw [if_neg (fun h => Int32.not_le.mpr h.2.2 h42)] at hK; exact hK))

set_option maxRecDepth 100000 in
set_option maxHeartbeats 4000000 in
theorem s_X4_isTrough {γ : Gm} {l : Launch} {M : Mm} {R : Rm} {K : KT} {b np ng : Nat} {sg : Nat → Int32} {c : Nat}  (hT : Tb b) (hR : RT R b) (hk : Tk M R b np ng sg) (hc : c < 40) (hK : K (some (.int (trough sg c))) 247 M R) : CL γ l mX4_isTrough 0 247 247 [.ref b, .int (nI c)] M R K := by
  show WP γ l mX4_isTrough 0 247 247 0 [some (.ref b), some (.int (nI c))] [] 247 M R K
  refine wp_iload_n dX4_isTrough_0 rfl ?_
  refine wp_iconst (v := 1) dX4_isTrough_1 (by decide) ?_
  refine wp_icN_lt (a := c) (b := 1) (tgt := 49) dX4_isTrough_2 (by decide) rfl rfl (by omega) (by omega) (fun h2 => ?_) (fun h2 => ?_)
  · refine wp_iconst (v := 0) dX4_isTrough_49 (by decide) ?_
    exact wp_iret dX4_isTrough_50 rfl rfl rfl (by
      unfold trough at hK
      first
        | (rw [if_pos ⟨⟨by omega, by omega⟩, Int32.not_le.mp h25, Int32.not_le.mp h42⟩] at hK; exact hK)
        | (rw [if_neg (fun h => absurd h.1 (by omega))] at hK; exact hK)
        | (rw [if_neg (fun h => Int32.not_le.mpr h.2.1 h25)] at hK; exact hK)
        | (rw [if_neg (fun h => Int32.not_le.mpr h.2.2 h42)] at hK; exact hK))
  · refine wp_iload_n dX4_isTrough_5 rfl ?_
    refine wp_bipush (v := 39) dX4_isTrough_6 (by decide) ?_
    refine wp_icN_ge (a := c) (b := 39) (tgt := 49) dX4_isTrough_8 (by decide) rfl rfl (by omega) (by omega) (fun h8 => ?_) (fun h8 => ?_)
    · refine wp_iconst (v := 0) dX4_isTrough_49 (by decide) ?_
      exact wp_iret dX4_isTrough_50 rfl rfl rfl (by
      unfold trough at hK
      first
        | (rw [if_pos ⟨⟨by omega, by omega⟩, Int32.not_le.mp h25, Int32.not_le.mp h42⟩] at hK; exact hK)
        | (rw [if_neg (fun h => absurd h.1 (by omega))] at hK; exact hK)
        | (rw [if_neg (fun h => Int32.not_le.mpr h.2.1 h25)] at hK; exact hK)
        | (rw [if_neg (fun h => Int32.not_le.mpr h.2.2 h42)] at hK; exact hK))
    · refine wp_aload_n dX4_isTrough_11 rfl ?_
      refine wp_getQ fX4_23 hT.t0.1 rfl hR.f1 (by omega) (by have := hT.lt; omega) dX4_isTrough_12 ?_
      refine wp_iload_n dX4_isTrough_15 rfl ?_
      refine wp_iadn (i := c) rfl hT.t2.1 (by have := hT.lt; omega) (by rw [hT.t2.2]; omega) (by have := hT.lt; omega) dX4_isTrough_16 (hk.clev (by omega)) ?_
      refine wp_aload_n dX4_isTrough_17 rfl ?_
      refine wp_getQ fX4_23 hT.t0.1 rfl hR.f1 (by omega) (by have := hT.lt; omega) dX4_isTrough_18 ?_
      refine wp_iload_n dX4_isTrough_21 rfl ?_
      refine wp_iconst (v := 1) dX4_isTrough_22 (by decide) ?_
      refine wp_isub dX4_isTrough_23 ?_
      refine wp_iadn (i := (c - 1)) (ix_sub (a := c) (b := 1) rfl rfl (by omega)) hT.t2.1 (by have := hT.lt; omega) (by rw [hT.t2.2]; omega) (by have := hT.lt; omega) dX4_isTrough_24 (hk.clev (by omega)) ?_
      refine wp_icmp_ge (tgt := 49) dX4_isTrough_25 (by decide) (fun h25 => ?_) (fun h25 => ?_)
      · refine wp_iconst (v := 0) dX4_isTrough_49 (by decide) ?_
        exact wp_iret dX4_isTrough_50 rfl rfl rfl (by
      unfold trough at hK
      first
        | (rw [if_pos ⟨⟨by omega, by omega⟩, Int32.not_le.mp h25, Int32.not_le.mp h42⟩] at hK; exact hK)
        | (rw [if_neg (fun h => absurd h.1 (by omega))] at hK; exact hK)
        | (rw [if_neg (fun h => Int32.not_le.mpr h.2.1 h25)] at hK; exact hK)
        | (rw [if_neg (fun h => Int32.not_le.mpr h.2.2 h42)] at hK; exact hK))
      · refine wp_aload_n dX4_isTrough_28 rfl ?_
        refine wp_getQ fX4_23 hT.t0.1 rfl hR.f1 (by omega) (by have := hT.lt; omega) dX4_isTrough_29 ?_
        refine wp_iload_n dX4_isTrough_32 rfl ?_
        refine wp_iadn (i := c) rfl hT.t2.1 (by have := hT.lt; omega) (by rw [hT.t2.2]; omega) (by have := hT.lt; omega) dX4_isTrough_33 (hk.clev (by omega)) ?_
        refine wp_aload_n dX4_isTrough_34 rfl ?_
        refine wp_getQ fX4_23 hT.t0.1 rfl hR.f1 (by omega) (by have := hT.lt; omega) dX4_isTrough_35 ?_
        refine wp_iload_n dX4_isTrough_38 rfl ?_
        refine wp_iconst (v := 1) dX4_isTrough_39 (by decide) ?_
        refine wp_iadd dX4_isTrough_40 ?_
        refine wp_iadn (i := (c + 1)) (ix_add rfl rfl) hT.t2.1 (by have := hT.lt; omega) (by rw [hT.t2.2]; omega) (by have := hT.lt; omega) dX4_isTrough_41 (hk.clev (by omega)) ?_
        refine wp_icmp_ge (tgt := 49) dX4_isTrough_42 (by decide) (fun h42 => ?_) (fun h42 => ?_)
        · refine wp_iconst (v := 0) dX4_isTrough_49 (by decide) ?_
          exact wp_iret dX4_isTrough_50 rfl rfl rfl (by
      unfold trough at hK
      first
        | (rw [if_pos ⟨⟨by omega, by omega⟩, Int32.not_le.mp h25, Int32.not_le.mp h42⟩] at hK; exact hK)
        | (rw [if_neg (fun h => absurd h.1 (by omega))] at hK; exact hK)
        | (rw [if_neg (fun h => Int32.not_le.mpr h.2.1 h25)] at hK; exact hK)
        | (rw [if_neg (fun h => Int32.not_le.mpr h.2.2 h42)] at hK; exact hK))
        · refine wp_iconst (v := 1) dX4_isTrough_45 (by decide) ?_
          refine wp_goto (tgt := 50) dX4_isTrough_46 (by decide) ?_
          exact wp_iret dX4_isTrough_50 rfl rfl rfl (by
      unfold trough at hK
      first
        | (rw [if_pos ⟨⟨by omega, by omega⟩, Int32.not_le.mp h25, Int32.not_le.mp h42⟩] at hK; exact hK)
        | (rw [if_neg (fun h => absurd h.1 (by omega))] at hK; exact hK)
        | (rw [if_neg (fun h => Int32.not_le.mpr h.2.1 h25)] at hK; exact hK)
        | (rw [if_neg (fun h => Int32.not_le.mpr h.2.2 h42)] at hK; exact hK))

set_option maxRecDepth 100000 in
set_option maxHeartbeats 4000000 in
theorem s_X4_lastUnevenCell {γ : Gm} {l : Launch} {M : Mm} {R : Rm} {K : KT} {b np ng : Nat} {sg : Nat → Int32}  (hT : Tb b) (hR : RT R b) (hk : Tk M R b np ng sg) (hK : K (some (.int (lsN sg 40))) 247 M R) : CL γ l mX4_lastUnevenCell 0 247 247 [.ref b] M R K := by
  show WP γ l mX4_lastUnevenCell 0 247 247 0 [some (.ref b), none] [] 247 M R K
  have loop : ∀ (k : Nat) (x : Int32), k ≤ 40 → x = nI k - 1 → lsN sg 40 = lsN sg k → WP γ l mX4_lastUnevenCell 0 247 247 3 [some (.ref b), some (.int x)] [] 247 M R K := by
    intro k
    induction k with
    | zero =>
      intro x hk0 hx hl
      subst hx
      refine wp_iload_n dX4_lastUnevenCell_3 rfl ?_
      refine wp_if_lt (tgt := 24) dX4_lastUnevenCell_4 (by decide) (fun h4 => ?_) (fun h4 => absurd (by decide) h4)
      refine wp_bipush (v := (-6)) dX4_lastUnevenCell_24 (by decide) ?_
      exact wp_iret dX4_lastUnevenCell_26 rfl rfl rfl (by rw [hl] at hK; exact hK)
    | succ k ih =>
      intro x hk0 hx hl
      rw [nI_m1] at hx
      subst hx
      refine wp_iload_n dX4_lastUnevenCell_3 rfl ?_
      refine wp_ifN_lt (a := k) (tgt := 24) dX4_lastUnevenCell_4 (by decide) rfl (by omega) ?_
      refine wp_aload_n dX4_lastUnevenCell_7 rfl ?_
      refine wp_getQ fX4_23 hT.t0.1 rfl hR.f1 (by omega) (by have := hT.lt; omega) dX4_lastUnevenCell_8 ?_
      refine wp_iload_n dX4_lastUnevenCell_11 rfl ?_
      refine wp_iadn (i := k) rfl hT.t2.1 (by have := hT.lt; omega) (by rw [hT.t2.2]; omega) (by have := hT.lt; omega) dX4_lastUnevenCell_12 (hk.clev (by omega)) ?_
      refine wp_if_eq (tgt := 18) dX4_lastUnevenCell_13 (by decide) (fun h13 => ?_) (fun h13 => ?_)
      · refine wp_iinc (v := nI k - 1) (L' := [some (.ref b), some (.int (nI k - 1))]) dX4_lastUnevenCell_18 (by decide) rfl (by rw [Int32.sub_eq_add_neg]; rfl) rfl ?_
        refine wp_goto (tgt := 3) dX4_lastUnevenCell_21 (by decide) ?_
        exact ih _ (by omega) rfl (by rw [hl, lsN, if_pos h13])
      · refine wp_iload_n dX4_lastUnevenCell_16 rfl ?_
        exact wp_iret dX4_lastUnevenCell_17 rfl rfl rfl (by rw [hl, lsN, if_neg h13] at hK; exact hK)
  refine wp_bipush (v := 39) dX4_lastUnevenCell_0 (by decide) ?_
  refine wp_istore_n (L' := [some (.ref b), some (.int _)]) dX4_lastUnevenCell_2 (by decide) rfl ?_
  exact loop 40 39 (by omega) (by decide) rfl
