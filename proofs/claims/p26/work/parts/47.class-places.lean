/-! THE CLASS: places -/
set_option maxRecDepth 100000 in
set_option maxHeartbeats 4000000 in
theorem s_X4_isPlace {γ : Gm} {l : Launch} {M : Mm} {R : Rm} {K : KT} {b np ng : Nat} {sg : Nat → Int32} {c w : Nat}  (hT : Tb b) (hR : RT R b) (hk : Tk M R b np ng sg) (ho : Ok0 sg np ng) (hc : c < 40) (hw : w < 5) (hK : K (some (.int (plcV sg np c (nI w)))) 247 M R) : CL γ l mX4_isPlace 1 247 247 [.ref b, .int (nI c), .int (nI w)] M R K := by
  show WP γ l mX4_isPlace 1 247 247 0 [some (.ref b), some (.int (nI c)), some (.int (nI w)), none] [] 247 M R K
  have h6 := ho.1.2
  refine wp_aload_n dX4_isPlace_0 rfl ?_
  refine wp_iload_n dX4_isPlace_1 rfl ?_
  refine wp_cV1 (z := mX4_rankIn) (n' := 247) kX4_80 dX4_isPlace_2 (Nat.le_of_ble_eq_true rfl) (Nat.le_of_ble_eq_true rfl) hT.t0.1 (by have := hT.lt; omega) (Nat.le_of_ble_eq_true rfl) (Nat.le_refl _) (Nat.le_refl _) (s_X4_rankIn hT hR hk ho (wp_af ?_))
  refine wp_istore_n (L' := [some (.ref b), some (.int (nI c)), some (.int (nI w)), some (.int _)]) dX4_isPlace_5 (by decide) rfl ?_
  refine wp_iload_n dX4_isPlace_6 rfl ?_
  refine wp_tswitch [(0, 40), (1, 46), (2, 52), (3, 67), (4, 77)] 99 dX4_isPlace_7 (by decide) (by decide) (by decide +kernel) ?_
  refine wp_sw (fun h7_0 => ?_) (fun h7_0 => ?_)
  · have g : w = 0 := (nI_eq (by omega) (by decide)).mp (show nI w = nI 0 from h7_0)
    subst g
    refine wp_aload_n dX4_isPlace_40 rfl ?_
    refine wp_iload_n dX4_isPlace_41 rfl ?_
    refine wp_cV1 (z := mX4_isCrest) (n' := 247) kX4_146 dX4_isPlace_42 (Nat.le_of_ble_eq_true rfl) (Nat.le_of_ble_eq_true rfl) hT.t0.1 (by have := hT.lt; omega) (Nat.le_of_ble_eq_true rfl) (Nat.le_refl _) (Nat.le_refl _) (s_X4_isCrest hT hR hk hc (wp_af ?_))
    exact wp_iret dX4_isPlace_45 rfl (nar01 (crest_01 _ _)) rfl (by rw [plcV, if_pos (by decide)] at hK; exact hK)
  refine wp_sw (fun h7_1 => ?_) (fun h7_1 => ?_)
  · have g : w = 1 := (nI_eq (by omega) (by decide)).mp (show nI w = nI 1 from h7_1)
    subst g
    refine wp_aload_n dX4_isPlace_46 rfl ?_
    refine wp_iload_n dX4_isPlace_47 rfl ?_
    refine wp_cV1 (z := mX4_isTrough) (n' := 247) kX4_150 dX4_isPlace_48 (Nat.le_of_ble_eq_true rfl) (Nat.le_of_ble_eq_true rfl) hT.t0.1 (by have := hT.lt; omega) (Nat.le_of_ble_eq_true rfl) (Nat.le_refl _) (Nat.le_refl _) (s_X4_isTrough hT hR hk hc (wp_af ?_))
    exact wp_iret dX4_isPlace_51 rfl (nar01 (trough_01 _ _)) rfl (by rw [plcV, if_neg (by decide), if_pos (by decide)] at hK; exact hK)
  refine wp_sw (fun h7_2 => ?_) (fun h7_2 => ?_)
  · have g : w = 2 := (nI_eq (by omega) (by decide)).mp (show nI w = nI 2 from h7_2)
    subst g
    refine wp_aload_n dX4_isPlace_52 rfl ?_
    refine wp_getQ fX4_23 hT.t0.1 rfl hR.f1 (by omega) (by have := hT.lt; omega) dX4_isPlace_53 ?_
    refine wp_iload_n dX4_isPlace_56 rfl ?_
    refine wp_iadn (i := c) rfl hT.t2.1 (by have := hT.lt; omega) (by rw [hT.t2.2]; omega) (by have := hT.lt; omega) dX4_isPlace_57 (hk.clev hc) ?_
    refine wp_if_eq (tgt := 65) dX4_isPlace_58 (by decide) (fun h58 => ?_) (fun h58 => ?_)
    · refine wp_iconst (v := 0) dX4_isPlace_65 (by decide) ?_
      exact wp_iret dX4_isPlace_66 rfl rfl rfl (by rw [plcV, if_neg (by decide), if_neg (by decide), if_pos (by decide)] at hK; first | (rw [if_pos h58] at hK; exact hK) | (rw [if_neg h58] at hK; exact hK))
    · refine wp_iconst (v := 1) dX4_isPlace_61 (by decide) ?_
      refine wp_goto (tgt := 66) dX4_isPlace_62 (by decide) ?_
      exact wp_iret dX4_isPlace_66 rfl rfl rfl (by rw [plcV, if_neg (by decide), if_neg (by decide), if_pos (by decide)] at hK; first | (rw [if_pos h58] at hK; exact hK) | (rw [if_neg h58] at hK; exact hK))
  refine wp_sw (fun h7_3 => ?_) (fun h7_3 => ?_)
  · have g : w = 3 := (nI_eq (by omega) (by decide)).mp (show nI w = nI 3 from h7_3)
    subst g
    refine wp_iload_n dX4_isPlace_67 rfl ?_
    refine wp_if_lt (tgt := 75) dX4_isPlace_68 (by decide) (fun h68 => ?_) (fun h68 => ?_)
    · refine wp_iconst (v := 0) dX4_isPlace_75 (by decide) ?_
      exact wp_iret dX4_isPlace_76 rfl rfl rfl (by rw [plcV, if_neg (by decide), if_neg (by decide), if_neg (by decide), if_pos (by decide)] at hK; first | (rw [if_pos (rkC_no h6 (fun q => Int32.not_lt.mpr q h68))] at hK; exact hK) | (obtain ⟨k, hkn, e1, e2⟩ := rkC_in (Int32.not_lt.mp h68); rw [if_neg (by rw [e1]; exact nI_m6 (by omega))] at hK; exact hK))
    · refine wp_iconst (v := 1) dX4_isPlace_71 (by decide) ?_
      refine wp_goto (tgt := 76) dX4_isPlace_72 (by decide) ?_
      exact wp_iret dX4_isPlace_76 rfl rfl rfl (by rw [plcV, if_neg (by decide), if_neg (by decide), if_neg (by decide), if_pos (by decide)] at hK; first | (rw [if_pos (rkC_no h6 (fun q => Int32.not_lt.mpr q h68))] at hK; exact hK) | (obtain ⟨k, hkn, e1, e2⟩ := rkC_in (Int32.not_lt.mp h68); rw [if_neg (by rw [e1]; exact nI_m6 (by omega))] at hK; exact hK))
  refine wp_sw (fun h7_4 => ?_) (fun h7_4 => ?_)
  · have g : w = 4 := (nI_eq (by omega) (by decide)).mp (show nI w = nI 4 from h7_4)
    subst g
    refine wp_iload_n dX4_isPlace_77 rfl ?_
    refine wp_if_lt (tgt := 97) dX4_isPlace_78 (by decide) (fun h78 => ?_) (fun h78 => ?_)
    · refine wp_iconst (v := 0) dX4_isPlace_97 (by decide) ?_
      exact wp_iret dX4_isPlace_98 rfl rfl rfl (by rw [plcV, if_neg (by decide), if_neg (by decide), if_neg (by decide), if_neg (by decide)] at hK; first | (rw [if_pos (rkC_no h6 (fun q => Int32.not_lt.mpr q h78))] at hK; exact hK) | (rw [if_neg (by rw [e1]; exact nI_m6 (by omega)), e1, nI_clamp (by omega)] at hK; first | (rw [if_pos h90] at hK; exact hK) | (rw [if_neg h90] at hK; exact hK) | (rw [if_pos (Decidable.not_not.mp h90)] at hK; exact hK)))
    · obtain ⟨k, hkn, e1, e2⟩ := rkC_in (Int32.not_lt.mp h78)
      obtain ⟨pd, hpd⟩ : ∃ pd, pd = R (b + 4) k := ⟨_, rfl⟩
      have hp : b + 6 ≤ pd ∧ pd < b + 12 := by rw [hpd]; exact hR.2.2.1 k (by omega)
      have hgo : M pd 5 = sg (86 + 6 * k + 5) := by rw [hpd]; exact hk.cpad hkn (by decide)
      refine wp_aload_n dX4_isPlace_81 rfl ?_
      refine wp_getQ fX4_31 hT.t0.1 rfl hR.f3 (by omega) (by have := hT.lt; omega) dX4_isPlace_82 ?_
      refine wp_iload_n dX4_isPlace_85 rfl ?_
      refine wp_aalq (i := k) e2 (by rw [hT.t4.1]; decide) (by rw [hT.t4.2]; omega) (hpd.symm) (by omega) (by have := hT.lt; omega) dX4_isPlace_86 ?_
      refine wp_getJ fX4_102 (hT.tp hp.1 hp.2).1 rfl (by have := hT.lt; omega) dX4_isPlace_87 (hgo) ?_
      refine wp_if_ne (tgt := 97) dX4_isPlace_90 (by decide) (fun h90 => ?_) (fun h90 => ?_)
      · refine wp_iconst (v := 0) dX4_isPlace_97 (by decide) ?_
        exact wp_iret dX4_isPlace_98 rfl rfl rfl (by rw [plcV, if_neg (by decide), if_neg (by decide), if_neg (by decide), if_neg (by decide)] at hK; first | (rw [if_pos (rkC_no h6 (fun q => Int32.not_lt.mpr q h78))] at hK; exact hK) | (rw [if_neg (by rw [e1]; exact nI_m6 (by omega)), e1, nI_clamp (by omega)] at hK; first | (rw [if_pos h90] at hK; exact hK) | (rw [if_neg h90] at hK; exact hK) | (rw [if_pos (Decidable.not_not.mp h90)] at hK; exact hK)))
      · refine wp_iconst (v := 1) dX4_isPlace_93 (by decide) ?_
        refine wp_goto (tgt := 98) dX4_isPlace_94 (by decide) ?_
        exact wp_iret dX4_isPlace_98 rfl rfl rfl (by rw [plcV, if_neg (by decide), if_neg (by decide), if_neg (by decide), if_neg (by decide)] at hK; first | (rw [if_pos (rkC_no h6 (fun q => Int32.not_lt.mpr q h78))] at hK; exact hK) | (rw [if_neg (by rw [e1]; exact nI_m6 (by omega)), e1, nI_clamp (by omega)] at hK; first | (rw [if_pos h90] at hK; exact hK) | (rw [if_neg h90] at hK; exact hK) | (rw [if_pos (Decidable.not_not.mp h90)] at hK; exact hK)))
  refine wp_sw0 ?_
  refine wp_iconst (v := 0) dX4_isPlace_99 (by decide) ?_
  exact wp_iret dX4_isPlace_100 rfl rfl rfl (by exfalso; have q0 : ¬ w = 0 := (fun e => h7_0 (by rw [e]; rfl)); have q1 : ¬ w = 1 := (fun e => h7_1 (by rw [e]; rfl)); have q2 : ¬ w = 2 := (fun e => h7_2 (by rw [e]; rfl)); have q3 : ¬ w = 3 := (fun e => h7_3 (by rw [e]; rfl)); have q4 : ¬ w = 4 := (fun e => h7_4 (by rw [e]; rfl)); omega)
