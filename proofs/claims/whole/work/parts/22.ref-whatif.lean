/-! THE REFERENCE: what if; undo, save, restore -/
/-- a step leaves what lies behind a tank's numbers -/
theorem paN_hi {sg : Nat → Int32} {np ng : Nat} (h : Ok0 sg np ng) {j : Nat} (hj : 370 ≤ j) : ∀ {k : Nat}, k ≤ np → paN sg k j = sg j
  | 0, _ => rfl
  | k + 1, hk => by
    have h6 := h.1.2
    have h1 := h.kpaN k (by omega)
    obtain ⟨⟨c, h36, hc⟩, -⟩ := h1.pds k (by omega)
    show pa1 (paN sg k) k j = _
    rw [pa1_same hc h36 (by omega) (by omega)]
    exact paN_hi h hj (by omega)
theorem ntN_hi {sg : Nat → Int32} {np ng : Nat} (h : Ok0 sg np ng) (hb : BdL sg) {j : Nat} (hj : 370 ≤ j) : ∀ {g : Nat}, g ≤ ng → ntN sg g j = sg j
  | 0, _ => rfl
  | g + 1, hg => by
    have h4 := h.2.1.2
    have h1 := (h.kntN hb g (by omega)).1
    obtain ⟨-, m, hm, hn⟩ := h1.ggs g (by omega)
    show nt1 (ntN sg g) g j = _
    rw [nt1_same hm hn (by omega)]
    exact ntN_hi h hb hj (by omega)
theorem stF_hi {sg : Nat → Int32} {np ng : Nat} (h : Ok0 sg np ng) {j : Nat} (hj : 370 ≤ j) : stF np ng sg j = sg j := by
  unfold stF
  rw [ntN_hi h.kstM.1 h.kstM.2 hj (Nat.le_refl _), up_n _ _ (by omega), stM, bcN_same (by omega), swB_same (by omega), paN_hi h hj (Nat.le_refl _)]
theorem psF_hi {sg : Nat → Int32} {np ng : Nat} (h : Ok0 sg np ng) {j : Nat} (hj : 370 ≤ j) : ∀ i, psF np ng sg i j = sg j
  | 0 => rfl
  | i + 1 => (stF_hi (h.kpsF i) hj).trans (psF_hi h hj i)
/-- a state that was kept comes back -/
theorem kept_back {M : Mm} {sg ro X : Nat → Int32} (hs : M 236 = sg) (hX : X = va_cpy sg (M 237) 0 0 370) (hr : ∀ j, 370 ≤ j → ro j = sg j) : up (up (up M 237 X) 236 ro) 236 (va_cpy X ro 0 0 370) = up M 237 X := by
  have e : va_cpy X ro 0 0 370 = sg := by
    funext j
    unfold va_cpy
    split
    · rename_i h
      rw [hX, va_cpy, if_pos (by omega)]
      simp
    · rename_i h
      exact hr j (by omega)
  rw [e, up_up]
  funext a
  by_cases h : a = 236
  · subst h
    rw [up_s, up_n _ _ (by decide), hs]
  · rw [up_n _ _ h]
/-- the first of the steps from i on at which g is no longer below far, among f more; -6 if there is none -/
def rcF (g : Nat → Int32) (far : Int32) : Nat → Nat → Int32
  | 0, i => if g i < far then -6 else nI i
  | f + 1, i => if g i < far then rcF g far f (i + 1) else nI i
set_option maxRecDepth 100000 in
set_option maxHeartbeats 4000000 in
theorem s_X6_reaches {γ : Gm} {l : Launch} {M : Mm} {R : Rm} {K : KT} {np ng : Nat} {c0 far : Int32} {sg : Nat → Int32} (hs : M 236 = sg) (hM : RM R) (ho : Ok0 sg np ng) (hE1 : ¬ (0 ≤ c0 ∧ c0 ≤ 39) → K (some (.int (-1))) 243 M R) (hE2 : (0 ≤ c0 ∧ c0 ≤ 39) → ¬ (1 ≤ far ∧ far ≤ 9999) → K (some (.int (-2))) 243 M R) (hK : ∀ c, c < 40 → c0 = nI c → (1 ≤ far ∧ far ≤ 9999) → ∀ X, K (some (.int (rcF (fun i => szI (psF np ng sg i (6 + c))) far 500 0))) 243 (up M 237 X) R) : CL γ l mX6_reaches 4 243 243 [.ref 235, .int c0, .int far] M R K := by
  show WP γ l mX6_reaches 4 243 243 0 [some (.ref 235), some (.int c0), some (.int far), none, none] [] 243 M R K
  refine wp_iload_n dX6_reaches_0 rfl ?_
  refine wp_cS1 (z := mX6_isCell) (n' := 243) kX6_102 dX6_reaches_1 (Nat.le_of_ble_eq_true rfl) (Nat.le_of_ble_eq_true rfl) (Nat.le_of_ble_eq_true rfl) (Nat.le_refl _) (Nat.le_refl _) (s_X6_isCell (wp_af ?_))
  refine wp_bq_ne (tgt := 9) dX6_reaches_4 (by decide) (fun h4 => ?_) (fun h4 => ?_)
  · obtain ⟨c, hc, e_c⟩ := cell_in h4
    subst e_c
    refine wp_iload_n dX6_reaches_9 rfl ?_
    refine wp_iconst (v := 1) dX6_reaches_10 (by decide) ?_
    refine wp_sipush (v := 9999) dX6_reaches_11 (by decide) ?_
    refine wp_cS3 (z := mX6_within) (n' := 243) kX6_39 dX6_reaches_14 (Nat.le_of_ble_eq_true rfl) (Nat.le_of_ble_eq_true rfl) (Nat.le_of_ble_eq_true rfl) (Nat.le_refl _) (Nat.le_refl _) (s_X6_within (wp_af ?_))
    refine wp_bq_ne (tgt := 23) dX6_reaches_17 (by decide) (fun h17 => ?_) (fun h17 => ?_)
    · refine wp_aload_n dX6_reaches_23 rfl ?_
      refine wp_getQ fX6_7 tA_235 rfl hM.f0 (by decide) (Nat.le_of_ble_eq_true rfl) dX6_reaches_24 ?_
      refine wp_iconst (v := 0) dX6_reaches_27 (by decide) ?_
      refine wp_aload_n dX6_reaches_28 rfl ?_
      refine wp_getQ fX6_13 tA_235 rfl hM.f1 (by decide) (Nat.le_of_ble_eq_true rfl) dX6_reaches_29 ?_
      refine wp_iconst (v := 0) dX6_reaches_32 (by decide) ?_
      refine wp_cS4 (z := mX6_moves) (n' := 243) kX6_35 dX6_reaches_33 (Nat.le_of_ble_eq_true rfl) (Nat.le_of_ble_eq_true rfl) (Nat.le_of_ble_eq_true rfl) (Nat.le_refl _) (Nat.le_refl _) (s_X6_moves (a := 236) (b := 237) (f := 0) (t := 0) tA_236 tA_237 (Nat.le_of_ble_eq_true rfl) (Nat.le_of_ble_eq_true rfl) (Nat.le_of_ble_eq_true rfl) (Nat.le_of_ble_eq_true rfl) (by decide) (by rw [lA_236]; omega) (by rw [lA_237]; omega) (wp_af0 ?_))
      refine wp_iconst (v := 0) dX6_reaches_36 (by decide) ?_
      refine wp_istore_n (L' := [some (.ref 235), some (.int (nI c)), some (.int far), some (.int _), none]) dX6_reaches_37 (by decide) rfl ?_
      have hKX := hK c hc rfl h17
      obtain ⟨X, hX⟩ : ∃ X, X = va_cpy sg (M 237) 0 0 370 := ⟨_, rfl⟩
      have hKX := hKX X
      rw [hs, ← hX]
      have loop : ∀ (f i : Nat) (ro : Nat → Int32), f + i = 500 → ro = psF np ng sg i → rcF (fun i => szI (psF np ng sg i (6 + c))) far f i = rcF (fun i => szI (psF np ng sg i (6 + c))) far 500 0 → WP γ l mX6_reaches 4 243 243 38 [some (.ref 235), some (.int (nI c)), some (.int far), some (.int (nI i)), none] [] 243 (up (up M 237 X) 236 ro) R K := by
        intro f
        induction f with
        | zero =>
          intro i ro hf hro hrc
          have hi : i = 500 := by omega
          have hri : ∀ j, 370 ≤ j → ro j = sg j := fun j hj => by rw [hro]; exact psF_hi ho hj i
          rw [rcF, ← hro] at hrc
          refine wp_aload_n dX6_reaches_38 rfl ?_
          refine wp_iload_n dX6_reaches_39 rfl ?_
          refine wp_cV1 (z := mX6_levelOf) (n' := 243) kX6_47 dX6_reaches_40 (Nat.le_of_ble_eq_true rfl) (Nat.le_of_ble_eq_true rfl) tA_235 (Nat.le_of_ble_eq_true rfl) (Nat.le_of_ble_eq_true rfl) (Nat.le_refl _) (Nat.le_refl _) (s_X6_levelOf (show (up (up M 237 X) 236 ro) 236 = ro from up_s _ _ _) (c := c) hM hc (wp_af ?_))
          refine wp_cS1 (z := mX6_size) (n' := 243) kX6_51 dX6_reaches_43 (Nat.le_of_ble_eq_true rfl) (Nat.le_of_ble_eq_true rfl) (Nat.le_of_ble_eq_true rfl) (Nat.le_refl _) (Nat.le_refl _) (s_X6_size (wp_af ?_))
          refine wp_iload_n dX6_reaches_46 rfl ?_
          refine wp_icmp_ge (tgt := 68) dX6_reaches_47 (by decide) (fun h47 => ?_) (fun h47 => ?_)
          · have g47 := Int32.not_lt.mpr h47
            refine wp_aload_n dX6_reaches_68 rfl ?_
            refine wp_iload_n dX6_reaches_69 rfl ?_
            refine wp_cV1 (z := mX6_levelOf) (n' := 243) kX6_47 dX6_reaches_70 (Nat.le_of_ble_eq_true rfl) (Nat.le_of_ble_eq_true rfl) tA_235 (Nat.le_of_ble_eq_true rfl) (Nat.le_of_ble_eq_true rfl) (Nat.le_refl _) (Nat.le_refl _) (s_X6_levelOf (show (up (up M 237 X) 236 ro) 236 = ro from up_s _ _ _) (c := c) hM hc (wp_af ?_))
            refine wp_cS1 (z := mX6_size) (n' := 243) kX6_51 dX6_reaches_73 (Nat.le_of_ble_eq_true rfl) (Nat.le_of_ble_eq_true rfl) (Nat.le_of_ble_eq_true rfl) (Nat.le_refl _) (Nat.le_refl _) (s_X6_size (wp_af ?_))
            refine wp_iload_n dX6_reaches_76 rfl ?_
            refine wp_icmp_ge (tgt := 85) dX6_reaches_77 (by decide) (fun h77 => ?_) (fun h77 => ?_)
            · have g77 := Int32.not_lt.mpr h77
              refine wp_iload_n dX6_reaches_85 rfl ?_
              refine wp_istore (L' := [some (.ref 235), some (.int (nI c)), some (.int far), some (.int (nI i)), some (.int (nI i))]) dX6_reaches_86 (by decide) rfl ?_
              refine wp_aload_n dX6_reaches_88 rfl ?_
              refine wp_getQ fX6_13 tA_235 rfl hM.f1 (by decide) (Nat.le_of_ble_eq_true rfl) dX6_reaches_89 ?_
              refine wp_iconst (v := 0) dX6_reaches_92 (by decide) ?_
              refine wp_aload_n dX6_reaches_93 rfl ?_
              refine wp_getQ fX6_7 tA_235 rfl hM.f0 (by decide) (Nat.le_of_ble_eq_true rfl) dX6_reaches_94 ?_
              refine wp_iconst (v := 0) dX6_reaches_97 (by decide) ?_
              refine wp_cS4 (z := mX6_moves) (n' := 243) kX6_35 dX6_reaches_98 (Nat.le_of_ble_eq_true rfl) (Nat.le_of_ble_eq_true rfl) (Nat.le_of_ble_eq_true rfl) (Nat.le_refl _) (Nat.le_refl _) (s_X6_moves (a := 237) (b := 236) (f := 0) (t := 0) tA_237 tA_236 (Nat.le_of_ble_eq_true rfl) (Nat.le_of_ble_eq_true rfl) (Nat.le_of_ble_eq_true rfl) (Nat.le_of_ble_eq_true rfl) (by decide) (by rw [lA_237]; omega) (by rw [lA_236]; omega) (wp_af0 ?_))
              refine wp_mem (M' := up M 237 X) (by rw [show (up (up M 237 X) 236 ro) 237 = X by rw [up_n _ _ (by decide), up_s], up_s]; exact kept_back hs hX hri) ?_
              refine wp_iload dX6_reaches_101 rfl ?_
              exact wp_iret dX6_reaches_103 rfl rfl rfl (by first | (rw [if_neg g77] at hrc; rw [hrc]; exact hKX) | (rw [if_pos g77] at hrc; rw [hrc]; exact hKX))
            · have g77 := Int32.not_le.mp h77
              refine wp_bipush (v := (-6)) dX6_reaches_80 (by decide) ?_
              refine wp_goto (tgt := 86) dX6_reaches_82 (by decide) ?_
              refine wp_istore (L' := [some (.ref 235), some (.int (nI c)), some (.int far), some (.int (nI i)), some (.int (-6))]) dX6_reaches_86 (by decide) rfl ?_
              refine wp_aload_n dX6_reaches_88 rfl ?_
              refine wp_getQ fX6_13 tA_235 rfl hM.f1 (by decide) (Nat.le_of_ble_eq_true rfl) dX6_reaches_89 ?_
              refine wp_iconst (v := 0) dX6_reaches_92 (by decide) ?_
              refine wp_aload_n dX6_reaches_93 rfl ?_
              refine wp_getQ fX6_7 tA_235 rfl hM.f0 (by decide) (Nat.le_of_ble_eq_true rfl) dX6_reaches_94 ?_
              refine wp_iconst (v := 0) dX6_reaches_97 (by decide) ?_
              refine wp_cS4 (z := mX6_moves) (n' := 243) kX6_35 dX6_reaches_98 (Nat.le_of_ble_eq_true rfl) (Nat.le_of_ble_eq_true rfl) (Nat.le_of_ble_eq_true rfl) (Nat.le_refl _) (Nat.le_refl _) (s_X6_moves (a := 237) (b := 236) (f := 0) (t := 0) tA_237 tA_236 (Nat.le_of_ble_eq_true rfl) (Nat.le_of_ble_eq_true rfl) (Nat.le_of_ble_eq_true rfl) (Nat.le_of_ble_eq_true rfl) (by decide) (by rw [lA_237]; omega) (by rw [lA_236]; omega) (wp_af0 ?_))
              refine wp_mem (M' := up M 237 X) (by rw [show (up (up M 237 X) 236 ro) 237 = X by rw [up_n _ _ (by decide), up_s], up_s]; exact kept_back hs hX hri) ?_
              refine wp_iload dX6_reaches_101 rfl ?_
              exact wp_iret dX6_reaches_103 rfl rfl rfl (by first | (rw [if_neg g77] at hrc; rw [hrc]; exact hKX) | (rw [if_pos g77] at hrc; rw [hrc]; exact hKX))
          · refine wp_iload_n dX6_reaches_50 rfl ?_
            refine wp_sipush (v := 500) dX6_reaches_51 (by decide) ?_
            refine wp_icN_ge (a := i) (b := 500) (tgt := 68) dX6_reaches_54 (by decide) rfl rfl (by omega) (by omega) (fun h54 => ?_) (fun h54 => absurd h54 (by omega))
            refine wp_aload_n dX6_reaches_68 rfl ?_
            refine wp_iload_n dX6_reaches_69 rfl ?_
            refine wp_cV1 (z := mX6_levelOf) (n' := 243) kX6_47 dX6_reaches_70 (Nat.le_of_ble_eq_true rfl) (Nat.le_of_ble_eq_true rfl) tA_235 (Nat.le_of_ble_eq_true rfl) (Nat.le_of_ble_eq_true rfl) (Nat.le_refl _) (Nat.le_refl _) (s_X6_levelOf (show (up (up M 237 X) 236 ro) 236 = ro from up_s _ _ _) (c := c) hM hc (wp_af ?_))
            refine wp_cS1 (z := mX6_size) (n' := 243) kX6_51 dX6_reaches_73 (Nat.le_of_ble_eq_true rfl) (Nat.le_of_ble_eq_true rfl) (Nat.le_of_ble_eq_true rfl) (Nat.le_refl _) (Nat.le_refl _) (s_X6_size (wp_af ?_))
            refine wp_iload_n dX6_reaches_76 rfl ?_
            refine wp_icmp_ge (tgt := 85) dX6_reaches_77 (by decide) (fun h77 => ?_) (fun h77 => ?_)
            · have g77 := Int32.not_lt.mpr h77
              refine wp_iload_n dX6_reaches_85 rfl ?_
              refine wp_istore (L' := [some (.ref 235), some (.int (nI c)), some (.int far), some (.int (nI i)), some (.int (nI i))]) dX6_reaches_86 (by decide) rfl ?_
              refine wp_aload_n dX6_reaches_88 rfl ?_
              refine wp_getQ fX6_13 tA_235 rfl hM.f1 (by decide) (Nat.le_of_ble_eq_true rfl) dX6_reaches_89 ?_
              refine wp_iconst (v := 0) dX6_reaches_92 (by decide) ?_
              refine wp_aload_n dX6_reaches_93 rfl ?_
              refine wp_getQ fX6_7 tA_235 rfl hM.f0 (by decide) (Nat.le_of_ble_eq_true rfl) dX6_reaches_94 ?_
              refine wp_iconst (v := 0) dX6_reaches_97 (by decide) ?_
              refine wp_cS4 (z := mX6_moves) (n' := 243) kX6_35 dX6_reaches_98 (Nat.le_of_ble_eq_true rfl) (Nat.le_of_ble_eq_true rfl) (Nat.le_of_ble_eq_true rfl) (Nat.le_refl _) (Nat.le_refl _) (s_X6_moves (a := 237) (b := 236) (f := 0) (t := 0) tA_237 tA_236 (Nat.le_of_ble_eq_true rfl) (Nat.le_of_ble_eq_true rfl) (Nat.le_of_ble_eq_true rfl) (Nat.le_of_ble_eq_true rfl) (by decide) (by rw [lA_237]; omega) (by rw [lA_236]; omega) (wp_af0 ?_))
              refine wp_mem (M' := up M 237 X) (by rw [show (up (up M 237 X) 236 ro) 237 = X by rw [up_n _ _ (by decide), up_s], up_s]; exact kept_back hs hX hri) ?_
              refine wp_iload dX6_reaches_101 rfl ?_
              exact wp_iret dX6_reaches_103 rfl rfl rfl (by first | (rw [if_neg g77] at hrc; rw [hrc]; exact hKX) | (rw [if_pos g77] at hrc; rw [hrc]; exact hKX))
            · have g77 := Int32.not_le.mp h77
              refine wp_bipush (v := (-6)) dX6_reaches_80 (by decide) ?_
              refine wp_goto (tgt := 86) dX6_reaches_82 (by decide) ?_
              refine wp_istore (L' := [some (.ref 235), some (.int (nI c)), some (.int far), some (.int (nI i)), some (.int (-6))]) dX6_reaches_86 (by decide) rfl ?_
              refine wp_aload_n dX6_reaches_88 rfl ?_
              refine wp_getQ fX6_13 tA_235 rfl hM.f1 (by decide) (Nat.le_of_ble_eq_true rfl) dX6_reaches_89 ?_
              refine wp_iconst (v := 0) dX6_reaches_92 (by decide) ?_
              refine wp_aload_n dX6_reaches_93 rfl ?_
              refine wp_getQ fX6_7 tA_235 rfl hM.f0 (by decide) (Nat.le_of_ble_eq_true rfl) dX6_reaches_94 ?_
              refine wp_iconst (v := 0) dX6_reaches_97 (by decide) ?_
              refine wp_cS4 (z := mX6_moves) (n' := 243) kX6_35 dX6_reaches_98 (Nat.le_of_ble_eq_true rfl) (Nat.le_of_ble_eq_true rfl) (Nat.le_of_ble_eq_true rfl) (Nat.le_refl _) (Nat.le_refl _) (s_X6_moves (a := 237) (b := 236) (f := 0) (t := 0) tA_237 tA_236 (Nat.le_of_ble_eq_true rfl) (Nat.le_of_ble_eq_true rfl) (Nat.le_of_ble_eq_true rfl) (Nat.le_of_ble_eq_true rfl) (by decide) (by rw [lA_237]; omega) (by rw [lA_236]; omega) (wp_af0 ?_))
              refine wp_mem (M' := up M 237 X) (by rw [show (up (up M 237 X) 236 ro) 237 = X by rw [up_n _ _ (by decide), up_s], up_s]; exact kept_back hs hX hri) ?_
              refine wp_iload dX6_reaches_101 rfl ?_
              exact wp_iret dX6_reaches_103 rfl rfl rfl (by first | (rw [if_neg g77] at hrc; rw [hrc]; exact hKX) | (rw [if_pos g77] at hrc; rw [hrc]; exact hKX))
        | succ f ih =>
          intro i ro hf hro hrc
          have hri : ∀ j, 370 ≤ j → ro j = sg j := fun j hj => by rw [hro]; exact psF_hi ho hj i
          have hoi : Ok0 ro np ng := by rw [hro]; exact ho.kpsF i
          rw [rcF, ← hro] at hrc
          refine wp_aload_n dX6_reaches_38 rfl ?_
          refine wp_iload_n dX6_reaches_39 rfl ?_
          refine wp_cV1 (z := mX6_levelOf) (n' := 243) kX6_47 dX6_reaches_40 (Nat.le_of_ble_eq_true rfl) (Nat.le_of_ble_eq_true rfl) tA_235 (Nat.le_of_ble_eq_true rfl) (Nat.le_of_ble_eq_true rfl) (Nat.le_refl _) (Nat.le_refl _) (s_X6_levelOf (show (up (up M 237 X) 236 ro) 236 = ro from up_s _ _ _) (c := c) hM hc (wp_af ?_))
          refine wp_cS1 (z := mX6_size) (n' := 243) kX6_51 dX6_reaches_43 (Nat.le_of_ble_eq_true rfl) (Nat.le_of_ble_eq_true rfl) (Nat.le_of_ble_eq_true rfl) (Nat.le_refl _) (Nat.le_refl _) (s_X6_size (wp_af ?_))
          refine wp_iload_n dX6_reaches_46 rfl ?_
          refine wp_icmp_ge (tgt := 68) dX6_reaches_47 (by decide) (fun h47 => ?_) (fun h47 => ?_)
          · have g47 := Int32.not_lt.mpr h47
            refine wp_aload_n dX6_reaches_68 rfl ?_
            refine wp_iload_n dX6_reaches_69 rfl ?_
            refine wp_cV1 (z := mX6_levelOf) (n' := 243) kX6_47 dX6_reaches_70 (Nat.le_of_ble_eq_true rfl) (Nat.le_of_ble_eq_true rfl) tA_235 (Nat.le_of_ble_eq_true rfl) (Nat.le_of_ble_eq_true rfl) (Nat.le_refl _) (Nat.le_refl _) (s_X6_levelOf (show (up (up M 237 X) 236 ro) 236 = ro from up_s _ _ _) (c := c) hM hc (wp_af ?_))
            refine wp_cS1 (z := mX6_size) (n' := 243) kX6_51 dX6_reaches_73 (Nat.le_of_ble_eq_true rfl) (Nat.le_of_ble_eq_true rfl) (Nat.le_of_ble_eq_true rfl) (Nat.le_refl _) (Nat.le_refl _) (s_X6_size (wp_af ?_))
            refine wp_iload_n dX6_reaches_76 rfl ?_
            refine wp_icmp_ge (tgt := 85) dX6_reaches_77 (by decide) (fun h77 => ?_) (fun h77 => ?_)
            · refine wp_iload_n dX6_reaches_85 rfl ?_
              refine wp_istore (L' := [some (.ref 235), some (.int (nI c)), some (.int far), some (.int (nI i)), some (.int (nI i))]) dX6_reaches_86 (by decide) rfl ?_
              refine wp_aload_n dX6_reaches_88 rfl ?_
              refine wp_getQ fX6_13 tA_235 rfl hM.f1 (by decide) (Nat.le_of_ble_eq_true rfl) dX6_reaches_89 ?_
              refine wp_iconst (v := 0) dX6_reaches_92 (by decide) ?_
              refine wp_aload_n dX6_reaches_93 rfl ?_
              refine wp_getQ fX6_7 tA_235 rfl hM.f0 (by decide) (Nat.le_of_ble_eq_true rfl) dX6_reaches_94 ?_
              refine wp_iconst (v := 0) dX6_reaches_97 (by decide) ?_
              refine wp_cS4 (z := mX6_moves) (n' := 243) kX6_35 dX6_reaches_98 (Nat.le_of_ble_eq_true rfl) (Nat.le_of_ble_eq_true rfl) (Nat.le_of_ble_eq_true rfl) (Nat.le_refl _) (Nat.le_refl _) (s_X6_moves (a := 237) (b := 236) (f := 0) (t := 0) tA_237 tA_236 (Nat.le_of_ble_eq_true rfl) (Nat.le_of_ble_eq_true rfl) (Nat.le_of_ble_eq_true rfl) (Nat.le_of_ble_eq_true rfl) (by decide) (by rw [lA_237]; omega) (by rw [lA_236]; omega) (wp_af0 ?_))
              refine wp_mem (M' := up M 237 X) (by rw [show (up (up M 237 X) 236 ro) 237 = X by rw [up_n _ _ (by decide), up_s], up_s]; exact kept_back hs hX hri) ?_
              refine wp_iload dX6_reaches_101 rfl ?_
              exact wp_iret dX6_reaches_103 rfl rfl rfl (by rw [if_neg g47] at hrc; rw [hrc]; exact hKX)
            · exact absurd (Int32.not_le.mp h77) g47
              skip
          · have g47 := Int32.not_le.mp h47
            rw [if_pos g47] at hrc
            refine wp_iload_n dX6_reaches_50 rfl ?_
            refine wp_sipush (v := 500) dX6_reaches_51 (by decide) ?_
            refine wp_icN_ge (a := i) (b := 500) (tgt := 68) dX6_reaches_54 (by decide) rfl rfl (by omega) (by omega) (fun h54 => absurd h54 (by omega)) (fun h54 => ?_)
            refine wp_aload_n dX6_reaches_57 rfl ?_
            refine wp_cV0 (z := mX6_step) (n' := 243) kX6_77 dX6_reaches_58 (Nat.le_of_ble_eq_true rfl) (Nat.le_of_ble_eq_true rfl) tA_235 (Nat.le_of_ble_eq_true rfl) (Nat.le_of_ble_eq_true rfl) (Nat.le_refl _) (Nat.le_refl _) (s_X6_step (show (up (up M 237 X) 236 ro) 236 = ro from up_s _ _ _) hM hoi (wp_af ?_))
            refine wp_mem (up_up _ _ _ _) ?_
            refine wp_pop dX6_reaches_61 rfl ?_
            refine wp_iinc (v := nI (i + 1)) (L' := [some (.ref 235), some (.int (nI c)), some (.int far), some (.int (nI (i + 1))), none]) dX6_reaches_62 (by decide) rfl (inc_1 _) rfl ?_
            refine wp_goto (tgt := 38) dX6_reaches_65 (by decide) ?_
            exact ih (i + 1) _ (by omega) (by rw [hro]; rfl) hrc
      refine wp_mem (M' := up (up M 237 X) 236 sg) ?_ ?_
      · funext a
        by_cases h : a = 236
        · subst h
          rw [up_s, up_n _ _ (by decide), hs]
        · rw [up_n (j := a) (k := 236) _ _ h]
      exact loop 500 0 _ rfl rfl rfl
    · refine wp_bipush (v := (-2)) dX6_reaches_20 (by decide) ?_
      exact wp_iret dX6_reaches_22 rfl rfl rfl (hE2 h4 h17)
  · refine wp_iconst (v := (-1)) dX6_reaches_7 (by decide) ?_
    exact wp_iret dX6_reaches_8 rfl rfl rfl (hE1 h4)

def ccF (g : Nat → Int32) : Nat → Nat → Int32
  | 0, i => if 0 < g i then -6 else nI i
  | f + 1, i => if 0 < g i then ccF g f (i + 1) else nI i
theorem Ok0.none {sg : Nat → Int32} {np ng : Nat} (h : Ok0 sg np ng) : Ok0 (up sg 4 0) 0 ng := by
  obtain ⟨-, ⟨b1, b2⟩, -, -, hg, c1, c2, c3⟩ := h
  refine ⟨⟨up_s _ _ _, by omega⟩, ⟨by rw [up_n _ _ (by omega)]; exact b1, b2⟩, fun k hk => absurd hk (by omega), fun i j _ hj => absurd hj (by omega), fun g hgn => ?_, by rw [up_n _ _ (by omega)]; exact c1, by rw [up_n _ _ (by omega)]; exact c2, by rw [up_n _ _ (by omega)]; exact c3⟩
  obtain ⟨h1, m, h2, h3, h4⟩ := hg g hgn
  exact ⟨by rw [up_n _ _ (by omega)]; exact h1, m, h2, by rw [up_n _ _ (by omega)]; exact h3, fun i hi => by rw [up_n _ _ (by omega)]; exact h4 i hi⟩
set_option maxRecDepth 100000 in
set_option maxHeartbeats 4000000 in
theorem s_X6_calmIn {γ : Gm} {l : Launch} {M : Mm} {R : Rm} {K : KT} {np ng : Nat} {sg : Nat → Int32} (hs : M 236 = sg) (hM : RM R) (ho : Ok0 sg np ng) (hK : ∀ X, K (some (.int (ccF (fun i => swN (psF 0 ng (up sg 4 0) i) 40) 500 0))) 243 (up M 237 X) R) : CL γ l mX6_calmIn 4 243 243 [.ref 235] M R K := by
  show WP γ l mX6_calmIn 4 243 243 0 [some (.ref 235), none, none] [] 243 M R K
  refine wp_aload_n dX6_calmIn_0 rfl ?_
  refine wp_getQ fX6_7 tA_235 rfl hM.f0 (by decide) (Nat.le_of_ble_eq_true rfl) dX6_calmIn_1 ?_
  refine wp_iconst (v := 0) dX6_calmIn_4 (by decide) ?_
  refine wp_aload_n dX6_calmIn_5 rfl ?_
  refine wp_getQ fX6_13 tA_235 rfl hM.f1 (by decide) (Nat.le_of_ble_eq_true rfl) dX6_calmIn_6 ?_
  refine wp_iconst (v := 0) dX6_calmIn_9 (by decide) ?_
  refine wp_cS4 (z := mX6_moves) (n' := 243) kX6_35 dX6_calmIn_10 (Nat.le_of_ble_eq_true rfl) (Nat.le_of_ble_eq_true rfl) (Nat.le_of_ble_eq_true rfl) (Nat.le_refl _) (Nat.le_refl _) (s_X6_moves (a := 236) (b := 237) (f := 0) (t := 0) tA_236 tA_237 (Nat.le_of_ble_eq_true rfl) (Nat.le_of_ble_eq_true rfl) (Nat.le_of_ble_eq_true rfl) (Nat.le_of_ble_eq_true rfl) (by decide) (by rw [lA_236]; omega) (by rw [lA_237]; omega) (wp_af0 ?_))
  obtain ⟨X, hX⟩ : ∃ X, X = va_cpy sg (M 237) 0 0 370 := ⟨_, rfl⟩
  replace hK := hK X
  rw [hs, ← hX]
  have s1 : (up M 237 X) 236 = sg := by rw [up_n _ _ (by decide)]; exact hs
  have loop : ∀ (f i : Nat) (ro : Nat → Int32), f + i = 500 → ro = psF 0 ng (up sg 4 0) i → ccF (fun i => swN (psF 0 ng (up sg 4 0) i) 40) f i = ccF (fun i => swN (psF 0 ng (up sg 4 0) i) 40) 500 0 → WP γ l mX6_calmIn 4 243 243 22 [some (.ref 235), some (.int (nI i)), none] [] 243 (up (up M 237 X) 236 ro) R K := by
    intro f
    induction f with
    | zero =>
      intro i ro hf hro hrc
      have hi : i = 500 := by omega
      have hri : ∀ j, 370 ≤ j → ro j = sg j := fun j hj => by rw [hro, psF_hi ho.none hj i, up_n _ _ (by omega)]
      rw [ccF, ← hro] at hrc
      refine wp_aload_n dX6_calmIn_22 rfl ?_
      refine wp_cV0 (z := mX6_swings) (n' := 243) kX6_153 dX6_calmIn_23 (Nat.le_of_ble_eq_true rfl) (Nat.le_of_ble_eq_true rfl) tA_235 (Nat.le_of_ble_eq_true rfl) (Nat.le_of_ble_eq_true rfl) (Nat.le_refl _) (Nat.le_refl _) (s_X6_swings (show (up (up M 237 X) 236 ro) 236 = ro from up_s _ _ _) hM (wp_af ?_))
      refine wp_if_le (tgt := 47) dX6_calmIn_26 (by decide) (fun h26 => ?_) (fun h26 => ?_)
      · refine wp_aload_n dX6_calmIn_47 rfl ?_
        refine wp_cV0 (z := mX6_swings) (n' := 243) kX6_153 dX6_calmIn_48 (Nat.le_of_ble_eq_true rfl) (Nat.le_of_ble_eq_true rfl) tA_235 (Nat.le_of_ble_eq_true rfl) (Nat.le_of_ble_eq_true rfl) (Nat.le_refl _) (Nat.le_refl _) (s_X6_swings (show (up (up M 237 X) 236 ro) 236 = ro from up_s _ _ _) hM (wp_af ?_))
        refine wp_if_le (tgt := 59) dX6_calmIn_51 (by decide) (fun h51 => ?_) (fun h51 => ?_)
        · have g51 := Int32.not_lt.mpr h51
          refine wp_iload_n dX6_calmIn_59 rfl ?_
          refine wp_istore_n (L' := [some (.ref 235), some (.int (nI i)), some (.int (nI i))]) dX6_calmIn_60 (by decide) rfl ?_
          refine wp_aload_n dX6_calmIn_61 rfl ?_
          refine wp_getQ fX6_13 tA_235 rfl hM.f1 (by decide) (Nat.le_of_ble_eq_true rfl) dX6_calmIn_62 ?_
          refine wp_iconst (v := 0) dX6_calmIn_65 (by decide) ?_
          refine wp_aload_n dX6_calmIn_66 rfl ?_
          refine wp_getQ fX6_7 tA_235 rfl hM.f0 (by decide) (Nat.le_of_ble_eq_true rfl) dX6_calmIn_67 ?_
          refine wp_iconst (v := 0) dX6_calmIn_70 (by decide) ?_
          refine wp_cS4 (z := mX6_moves) (n' := 243) kX6_35 dX6_calmIn_71 (Nat.le_of_ble_eq_true rfl) (Nat.le_of_ble_eq_true rfl) (Nat.le_of_ble_eq_true rfl) (Nat.le_refl _) (Nat.le_refl _) (s_X6_moves (a := 237) (b := 236) (f := 0) (t := 0) tA_237 tA_236 (Nat.le_of_ble_eq_true rfl) (Nat.le_of_ble_eq_true rfl) (Nat.le_of_ble_eq_true rfl) (Nat.le_of_ble_eq_true rfl) (by decide) (by rw [lA_237]; omega) (by rw [lA_236]; omega) (wp_af0 ?_))
          refine wp_mem (M' := up M 237 X) (by rw [show (up (up M 237 X) 236 ro) 237 = X by rw [up_n _ _ (by decide), up_s], up_s]; exact kept_back hs hX hri) ?_
          refine wp_iload_n dX6_calmIn_74 rfl ?_
          exact wp_iret dX6_calmIn_75 rfl rfl rfl (by first | (rw [if_neg g51] at hrc; rw [hrc]; exact hK) | (rw [if_pos g51] at hrc; rw [hrc]; exact hK))
        · have g51 := Int32.not_le.mp h51
          refine wp_bipush (v := (-6)) dX6_calmIn_54 (by decide) ?_
          refine wp_goto (tgt := 60) dX6_calmIn_56 (by decide) ?_
          refine wp_istore_n (L' := [some (.ref 235), some (.int (nI i)), some (.int (-6))]) dX6_calmIn_60 (by decide) rfl ?_
          refine wp_aload_n dX6_calmIn_61 rfl ?_
          refine wp_getQ fX6_13 tA_235 rfl hM.f1 (by decide) (Nat.le_of_ble_eq_true rfl) dX6_calmIn_62 ?_
          refine wp_iconst (v := 0) dX6_calmIn_65 (by decide) ?_
          refine wp_aload_n dX6_calmIn_66 rfl ?_
          refine wp_getQ fX6_7 tA_235 rfl hM.f0 (by decide) (Nat.le_of_ble_eq_true rfl) dX6_calmIn_67 ?_
          refine wp_iconst (v := 0) dX6_calmIn_70 (by decide) ?_
          refine wp_cS4 (z := mX6_moves) (n' := 243) kX6_35 dX6_calmIn_71 (Nat.le_of_ble_eq_true rfl) (Nat.le_of_ble_eq_true rfl) (Nat.le_of_ble_eq_true rfl) (Nat.le_refl _) (Nat.le_refl _) (s_X6_moves (a := 237) (b := 236) (f := 0) (t := 0) tA_237 tA_236 (Nat.le_of_ble_eq_true rfl) (Nat.le_of_ble_eq_true rfl) (Nat.le_of_ble_eq_true rfl) (Nat.le_of_ble_eq_true rfl) (by decide) (by rw [lA_237]; omega) (by rw [lA_236]; omega) (wp_af0 ?_))
          refine wp_mem (M' := up M 237 X) (by rw [show (up (up M 237 X) 236 ro) 237 = X by rw [up_n _ _ (by decide), up_s], up_s]; exact kept_back hs hX hri) ?_
          refine wp_iload_n dX6_calmIn_74 rfl ?_
          exact wp_iret dX6_calmIn_75 rfl rfl rfl (by first | (rw [if_neg g51] at hrc; rw [hrc]; exact hK) | (rw [if_pos g51] at hrc; rw [hrc]; exact hK))
      · refine wp_iload_n dX6_calmIn_29 rfl ?_
        refine wp_sipush (v := 500) dX6_calmIn_30 (by decide) ?_
        refine wp_icN_ge (a := i) (b := 500) (tgt := 47) dX6_calmIn_33 (by decide) rfl rfl (by omega) (by omega) (fun h33 => ?_) (fun h33 => absurd h33 (by omega))
        refine wp_aload_n dX6_calmIn_47 rfl ?_
        refine wp_cV0 (z := mX6_swings) (n' := 243) kX6_153 dX6_calmIn_48 (Nat.le_of_ble_eq_true rfl) (Nat.le_of_ble_eq_true rfl) tA_235 (Nat.le_of_ble_eq_true rfl) (Nat.le_of_ble_eq_true rfl) (Nat.le_refl _) (Nat.le_refl _) (s_X6_swings (show (up (up M 237 X) 236 ro) 236 = ro from up_s _ _ _) hM (wp_af ?_))
        refine wp_if_le (tgt := 59) dX6_calmIn_51 (by decide) (fun h51 => ?_) (fun h51 => ?_)
        · have g51 := Int32.not_lt.mpr h51
          refine wp_iload_n dX6_calmIn_59 rfl ?_
          refine wp_istore_n (L' := [some (.ref 235), some (.int (nI i)), some (.int (nI i))]) dX6_calmIn_60 (by decide) rfl ?_
          refine wp_aload_n dX6_calmIn_61 rfl ?_
          refine wp_getQ fX6_13 tA_235 rfl hM.f1 (by decide) (Nat.le_of_ble_eq_true rfl) dX6_calmIn_62 ?_
          refine wp_iconst (v := 0) dX6_calmIn_65 (by decide) ?_
          refine wp_aload_n dX6_calmIn_66 rfl ?_
          refine wp_getQ fX6_7 tA_235 rfl hM.f0 (by decide) (Nat.le_of_ble_eq_true rfl) dX6_calmIn_67 ?_
          refine wp_iconst (v := 0) dX6_calmIn_70 (by decide) ?_
          refine wp_cS4 (z := mX6_moves) (n' := 243) kX6_35 dX6_calmIn_71 (Nat.le_of_ble_eq_true rfl) (Nat.le_of_ble_eq_true rfl) (Nat.le_of_ble_eq_true rfl) (Nat.le_refl _) (Nat.le_refl _) (s_X6_moves (a := 237) (b := 236) (f := 0) (t := 0) tA_237 tA_236 (Nat.le_of_ble_eq_true rfl) (Nat.le_of_ble_eq_true rfl) (Nat.le_of_ble_eq_true rfl) (Nat.le_of_ble_eq_true rfl) (by decide) (by rw [lA_237]; omega) (by rw [lA_236]; omega) (wp_af0 ?_))
          refine wp_mem (M' := up M 237 X) (by rw [show (up (up M 237 X) 236 ro) 237 = X by rw [up_n _ _ (by decide), up_s], up_s]; exact kept_back hs hX hri) ?_
          refine wp_iload_n dX6_calmIn_74 rfl ?_
          exact wp_iret dX6_calmIn_75 rfl rfl rfl (by first | (rw [if_neg g51] at hrc; rw [hrc]; exact hK) | (rw [if_pos g51] at hrc; rw [hrc]; exact hK))
        · have g51 := Int32.not_le.mp h51
          refine wp_bipush (v := (-6)) dX6_calmIn_54 (by decide) ?_
          refine wp_goto (tgt := 60) dX6_calmIn_56 (by decide) ?_
          refine wp_istore_n (L' := [some (.ref 235), some (.int (nI i)), some (.int (-6))]) dX6_calmIn_60 (by decide) rfl ?_
          refine wp_aload_n dX6_calmIn_61 rfl ?_
          refine wp_getQ fX6_13 tA_235 rfl hM.f1 (by decide) (Nat.le_of_ble_eq_true rfl) dX6_calmIn_62 ?_
          refine wp_iconst (v := 0) dX6_calmIn_65 (by decide) ?_
          refine wp_aload_n dX6_calmIn_66 rfl ?_
          refine wp_getQ fX6_7 tA_235 rfl hM.f0 (by decide) (Nat.le_of_ble_eq_true rfl) dX6_calmIn_67 ?_
          refine wp_iconst (v := 0) dX6_calmIn_70 (by decide) ?_
          refine wp_cS4 (z := mX6_moves) (n' := 243) kX6_35 dX6_calmIn_71 (Nat.le_of_ble_eq_true rfl) (Nat.le_of_ble_eq_true rfl) (Nat.le_of_ble_eq_true rfl) (Nat.le_refl _) (Nat.le_refl _) (s_X6_moves (a := 237) (b := 236) (f := 0) (t := 0) tA_237 tA_236 (Nat.le_of_ble_eq_true rfl) (Nat.le_of_ble_eq_true rfl) (Nat.le_of_ble_eq_true rfl) (Nat.le_of_ble_eq_true rfl) (by decide) (by rw [lA_237]; omega) (by rw [lA_236]; omega) (wp_af0 ?_))
          refine wp_mem (M' := up M 237 X) (by rw [show (up (up M 237 X) 236 ro) 237 = X by rw [up_n _ _ (by decide), up_s], up_s]; exact kept_back hs hX hri) ?_
          refine wp_iload_n dX6_calmIn_74 rfl ?_
          exact wp_iret dX6_calmIn_75 rfl rfl rfl (by first | (rw [if_neg g51] at hrc; rw [hrc]; exact hK) | (rw [if_pos g51] at hrc; rw [hrc]; exact hK))
    | succ f ih =>
      intro i ro hf hro hrc
      have hri : ∀ j, 370 ≤ j → ro j = sg j := fun j hj => by rw [hro, psF_hi ho.none hj i, up_n _ _ (by omega)]
      have hoi : Ok0 ro 0 ng := by rw [hro]; exact ho.none.kpsF i
      rw [ccF, ← hro] at hrc
      refine wp_aload_n dX6_calmIn_22 rfl ?_
      refine wp_cV0 (z := mX6_swings) (n' := 243) kX6_153 dX6_calmIn_23 (Nat.le_of_ble_eq_true rfl) (Nat.le_of_ble_eq_true rfl) tA_235 (Nat.le_of_ble_eq_true rfl) (Nat.le_of_ble_eq_true rfl) (Nat.le_refl _) (Nat.le_refl _) (s_X6_swings (show (up (up M 237 X) 236 ro) 236 = ro from up_s _ _ _) hM (wp_af ?_))
      refine wp_if_le (tgt := 47) dX6_calmIn_26 (by decide) (fun h26 => ?_) (fun h26 => ?_)
      · have g26 := Int32.not_lt.mpr h26
        refine wp_aload_n dX6_calmIn_47 rfl ?_
        refine wp_cV0 (z := mX6_swings) (n' := 243) kX6_153 dX6_calmIn_48 (Nat.le_of_ble_eq_true rfl) (Nat.le_of_ble_eq_true rfl) tA_235 (Nat.le_of_ble_eq_true rfl) (Nat.le_of_ble_eq_true rfl) (Nat.le_refl _) (Nat.le_refl _) (s_X6_swings (show (up (up M 237 X) 236 ro) 236 = ro from up_s _ _ _) hM (wp_af ?_))
        refine wp_if_le (tgt := 59) dX6_calmIn_51 (by decide) (fun h51 => ?_) (fun h51 => ?_)
        · refine wp_iload_n dX6_calmIn_59 rfl ?_
          refine wp_istore_n (L' := [some (.ref 235), some (.int (nI i)), some (.int (nI i))]) dX6_calmIn_60 (by decide) rfl ?_
          refine wp_aload_n dX6_calmIn_61 rfl ?_
          refine wp_getQ fX6_13 tA_235 rfl hM.f1 (by decide) (Nat.le_of_ble_eq_true rfl) dX6_calmIn_62 ?_
          refine wp_iconst (v := 0) dX6_calmIn_65 (by decide) ?_
          refine wp_aload_n dX6_calmIn_66 rfl ?_
          refine wp_getQ fX6_7 tA_235 rfl hM.f0 (by decide) (Nat.le_of_ble_eq_true rfl) dX6_calmIn_67 ?_
          refine wp_iconst (v := 0) dX6_calmIn_70 (by decide) ?_
          refine wp_cS4 (z := mX6_moves) (n' := 243) kX6_35 dX6_calmIn_71 (Nat.le_of_ble_eq_true rfl) (Nat.le_of_ble_eq_true rfl) (Nat.le_of_ble_eq_true rfl) (Nat.le_refl _) (Nat.le_refl _) (s_X6_moves (a := 237) (b := 236) (f := 0) (t := 0) tA_237 tA_236 (Nat.le_of_ble_eq_true rfl) (Nat.le_of_ble_eq_true rfl) (Nat.le_of_ble_eq_true rfl) (Nat.le_of_ble_eq_true rfl) (by decide) (by rw [lA_237]; omega) (by rw [lA_236]; omega) (wp_af0 ?_))
          refine wp_mem (M' := up M 237 X) (by rw [show (up (up M 237 X) 236 ro) 237 = X by rw [up_n _ _ (by decide), up_s], up_s]; exact kept_back hs hX hri) ?_
          refine wp_iload_n dX6_calmIn_74 rfl ?_
          exact wp_iret dX6_calmIn_75 rfl rfl rfl (by rw [if_neg g26] at hrc; rw [hrc]; exact hK)
        · exact absurd (Int32.not_le.mp h51) g26
          skip
      · have g26 := Int32.not_le.mp h26
        rw [if_pos g26] at hrc
        refine wp_iload_n dX6_calmIn_29 rfl ?_
        refine wp_sipush (v := 500) dX6_calmIn_30 (by decide) ?_
        refine wp_icN_ge (a := i) (b := 500) (tgt := 47) dX6_calmIn_33 (by decide) rfl rfl (by omega) (by omega) (fun h33 => absurd h33 (by omega)) (fun h33 => ?_)
        refine wp_aload_n dX6_calmIn_36 rfl ?_
        refine wp_cV0 (z := mX6_step) (n' := 243) kX6_77 dX6_calmIn_37 (Nat.le_of_ble_eq_true rfl) (Nat.le_of_ble_eq_true rfl) tA_235 (Nat.le_of_ble_eq_true rfl) (Nat.le_of_ble_eq_true rfl) (Nat.le_refl _) (Nat.le_refl _) (s_X6_step (show (up (up M 237 X) 236 ro) 236 = ro from up_s _ _ _) hM hoi (wp_af ?_))
        refine wp_mem (up_up _ _ _ _) ?_
        refine wp_pop dX6_calmIn_40 rfl ?_
        refine wp_iinc (v := nI (i + 1)) (L' := [some (.ref 235), some (.int (nI (i + 1))), none]) dX6_calmIn_41 (by decide) rfl (inc_1 _) rfl ?_
        refine wp_goto (tgt := 22) dX6_calmIn_44 (by decide) ?_
        exact ih (i + 1) _ (by omega) (by rw [hro]; rfl) hrc
  refine wp_aload_n dX6_calmIn_13 rfl ?_
  refine wp_getQ fX6_7 tA_235 rfl hM.f0 (by decide) (Nat.le_of_ble_eq_true rfl) dX6_calmIn_14 ?_
  refine wp_iconst (v := 4) dX6_calmIn_17 (by decide) ?_
  refine wp_iconst (v := 0) dX6_calmIn_18 (by decide) ?_
  refine wp_iast (i := 4) rfl tA_236 (Nat.le_of_ble_eq_true rfl) (by rw [lA_236]; omega) (Nat.le_of_ble_eq_true rfl) dX6_calmIn_19 ?_
  refine wp_mem (u2_at s1) ?_
  refine wp_iconst (v := 0) dX6_calmIn_20 (by decide) ?_
  refine wp_istore_n (L' := [some (.ref 235), some (.int _), none]) dX6_calmIn_21 (by decide) rfl ?_
  exact loop 500 0 _ rfl rfl rfl

