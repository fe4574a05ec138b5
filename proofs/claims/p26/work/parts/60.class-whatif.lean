/-! THE CLASS: what if -/
set_option maxRecDepth 100000 in
set_option maxHeartbeats 4000000 in
theorem s_X5_reaches {γ : Gm} {l : Launch} {M : Mm} {R : Rm} {K : KT} {sg tx F : Nat → Int32} {rc pl : Nat} {hs S : Nat → Nat → Int32} {c0 far : Int32}  (h : IC M R sg rc hs F S tx pl) (hE1 : ¬ (0 ≤ c0 ∧ c0 ≤ 39) → K (some (.int (-1))) 247 M R) (hE2 : (0 ≤ c0 ∧ c0 ≤ 39) → ¬ (1 ≤ far ∧ far ≤ 9999) → K (some (.int (-2))) 247 M R) (hK : ∀ c, c < 40 → c0 = nI c → (1 ≤ far ∧ far ≤ 9999) → ∀ M1, IC M1 R sg rc hs F S tx pl → FC M M1 R R → K (some (.int (rcF (fun i => szI (psF (nP sg) (nG sg) sg i (6 + c))) far 500 0))) 247 M1 R) : CL γ l mX5_reaches 4 247 247 [.ref 8, .int c0, .int far] M R K := by
  show WP γ l mX5_reaches 4 247 247 0 [some (.ref 8), some (.int c0), some (.int far), none] [] 247 M R K
  have hC := h.ib.gr.rc
  have h9 := h.ib.gr.r9
  have h175 := h.ib.gr.r175
  have loop : ∀ c, c < 40 → (∀ M1, FrM 175 M M1 → K (some (.int (rcF (fun i => szI (psF (nP sg) (nG sg) sg i (6 + c))) far 500 0))) 247 M1 R) → ∀ (f w : Nat) (M1 : Mm), f + w = 500 → rcF (fun i => szI (psF (nP sg) (nG sg) sg i (6 + c))) far f w = rcF (fun i => szI (psF (nP sg) (nG sg) sg i (6 + c))) far 500 0 → FrM 175 M M1 → Tk M1 R 175 (nP sg) (nG sg) (psF (nP sg) (nG sg) sg w) → WP γ l mX5_reaches 4 247 247 39 [some (.ref 8), some (.int (nI c)), some (.int far), some (.int (nI w))] [] 247 M1 R K := by
    intro c hc hR f
    have out : ∀ M1, K (some (.int (-6))) 247 M1 R → WP γ l mX5_reaches 4 247 247 39 [some (.ref 8), some (.int (nI c)), some (.int far), some (.int (nI 501))] [] 247 M1 R K := by
      intro M1 hk
      refine wp_iload_n dX5_reaches_39 rfl ?_
      refine wp_sipush (v := 500) dX5_reaches_40 (by decide) ?_
      refine wp_icN_gt (a := 501) (b := 500) (tgt := 78) dX5_reaches_43 (by decide) rfl rfl (by omega) (by omega) (fun _ => ?_) (fun h => absurd h (by decide))
      refine wp_bipush (v := (-6)) dX5_reaches_78 (by decide) ?_
      exact wp_iret dX5_reaches_80 rfl rfl rfl (hk)
    induction f with
    | zero =>
      intro w M1 hw he g3 g4
      obtain rfl : w = 500 := by omega
      rw [rcF] at he
      refine wp_iload_n dX5_reaches_39 rfl ?_
      refine wp_sipush (v := 500) dX5_reaches_40 (by decide) ?_
      refine wp_icN_gt (a := 500) (b := 500) (tgt := 78) dX5_reaches_43 (by decide) rfl rfl (by omega) (by omega) (fun h => absurd h (by decide)) (fun _ => ?_)
      refine wp_aload_n dX5_reaches_46 rfl ?_
      refine wp_getQ fX5_41 tA_8 rfl hC.f6 (by decide) (Nat.le_of_ble_eq_true rfl) dX5_reaches_47 ?_
      refine wp_getQ fX5_82 tb175.t0.1 rfl h175.f1 (by omega) (by have := tb175.lt; omega) dX5_reaches_50 ?_
      refine wp_iload_n dX5_reaches_53 rfl ?_
      refine wp_iadn (i := c) rfl tb175.t2.1 (by have := tb175.lt; omega) (by rw [tb175.t2.2]; omega) (by have := tb175.lt; omega) dX5_reaches_54 (g4.clev hc) ?_
      refine wp_cS1 (z := mJ9_abs_0f7a4) (n' := 247) kX5_195 dX5_reaches_55 (Nat.le_of_ble_eq_true rfl) (Nat.le_of_ble_eq_true rfl) (Nat.le_of_ble_eq_true rfl) (Nat.le_refl _) (Nat.le_refl _) (s_J9_abs_0f7a4 (wp_af ?_))
      refine wp_iload_n dX5_reaches_58 rfl ?_
      refine wp_icmp_lt (tgt := 64) dX5_reaches_59 (by decide) (fun h59 => ?_) (fun h59 => ?_)
      · rw [if_pos h59] at he
        refine wp_aload_n dX5_reaches_64 rfl ?_
        refine wp_getQ fX5_41 tA_8 rfl hC.f6 (by decide) (Nat.le_of_ble_eq_true rfl) dX5_reaches_65 ?_
        refine wp_cV0 (z := mX4_step) (n' := 247) kX5_200 dX5_reaches_68 (Nat.le_of_ble_eq_true rfl) (Nat.le_of_ble_eq_true rfl) tb175.t0.1 (by have := tb175.lt; omega) (Nat.le_of_ble_eq_true rfl) (Nat.le_refl _) (Nat.le_refl _) (s_X4_step tb175 h175 g4 (h.ok.1.kpsF _) (fun M3 g5 g6 => (wp_af ?_)))
        refine wp_pop dX5_reaches_71 rfl ?_
        refine wp_iinc (v := nI (500 + 1)) (L' := [some (.ref 8), some (.int (nI c)), some (.int far), some (.int (nI (500 + 1)))]) dX5_reaches_72 (by decide) rfl (inc_1 _) rfl ?_
        refine wp_goto (tgt := 39) dX5_reaches_75 (by decide) ?_
        exact out _ (by rw [← he] at hR; exact hR _ (g3.tr g5))
      · rw [if_neg h59] at he
        refine wp_iload_n dX5_reaches_62 rfl ?_
        exact wp_iret dX5_reaches_63 rfl rfl rfl (by rw [← he] at hR; exact hR M1 g3)
    | succ f ih =>
      intro w M1 hw he g3 g4
      rw [rcF] at he
      refine wp_iload_n dX5_reaches_39 rfl ?_
      refine wp_sipush (v := 500) dX5_reaches_40 (by decide) ?_
      refine wp_icN_gt (a := w) (b := 500) (tgt := 78) dX5_reaches_43 (by decide) rfl rfl (by omega) (by omega) (fun h43 => absurd h43 (by omega)) (fun h43 => ?_)
      refine wp_aload_n dX5_reaches_46 rfl ?_
      refine wp_getQ fX5_41 tA_8 rfl hC.f6 (by decide) (Nat.le_of_ble_eq_true rfl) dX5_reaches_47 ?_
      refine wp_getQ fX5_82 tb175.t0.1 rfl h175.f1 (by omega) (by have := tb175.lt; omega) dX5_reaches_50 ?_
      refine wp_iload_n dX5_reaches_53 rfl ?_
      refine wp_iadn (i := c) rfl tb175.t2.1 (by have := tb175.lt; omega) (by rw [tb175.t2.2]; omega) (by have := tb175.lt; omega) dX5_reaches_54 (g4.clev hc) ?_
      refine wp_cS1 (z := mJ9_abs_0f7a4) (n' := 247) kX5_195 dX5_reaches_55 (Nat.le_of_ble_eq_true rfl) (Nat.le_of_ble_eq_true rfl) (Nat.le_of_ble_eq_true rfl) (Nat.le_refl _) (Nat.le_refl _) (s_J9_abs_0f7a4 (wp_af ?_))
      refine wp_iload_n dX5_reaches_58 rfl ?_
      refine wp_icmp_lt (tgt := 64) dX5_reaches_59 (by decide) (fun h59 => ?_) (fun h59 => ?_)
      · rw [if_pos h59] at he
        refine wp_aload_n dX5_reaches_64 rfl ?_
        refine wp_getQ fX5_41 tA_8 rfl hC.f6 (by decide) (Nat.le_of_ble_eq_true rfl) dX5_reaches_65 ?_
        refine wp_cV0 (z := mX4_step) (n' := 247) kX5_200 dX5_reaches_68 (Nat.le_of_ble_eq_true rfl) (Nat.le_of_ble_eq_true rfl) tb175.t0.1 (by have := tb175.lt; omega) (Nat.le_of_ble_eq_true rfl) (Nat.le_refl _) (Nat.le_refl _) (s_X4_step tb175 h175 g4 (h.ok.1.kpsF _) (fun M3 g5 g6 => (wp_af ?_)))
        refine wp_pop dX5_reaches_71 rfl ?_
        refine wp_iinc (v := nI (w + 1)) (L' := [some (.ref 8), some (.int (nI c)), some (.int far), some (.int (nI (w + 1)))]) dX5_reaches_72 (by decide) rfl (inc_1 _) rfl ?_
        refine wp_goto (tgt := 39) dX5_reaches_75 (by decide) ?_
        exact ih (w + 1) _ (by omega) he (g3.tr g5) g6
      · rw [if_neg h59] at he
        refine wp_iload_n dX5_reaches_62 rfl ?_
        exact wp_iret dX5_reaches_63 rfl rfl rfl (by rw [← he] at hR; exact hR M1 g3)
  refine wp_iload_n dX5_reaches_0 rfl ?_
  refine wp_bipush (v := 40) dX5_reaches_1 (by decide) ?_
  refine wp_cS2 (z := mX5_isOutside) (n' := 247) kX5_78 dX5_reaches_3 (Nat.le_of_ble_eq_true rfl) (Nat.le_of_ble_eq_true rfl) (Nat.le_of_ble_eq_true rfl) (Nat.le_refl _) (Nat.le_refl _) (s_X5_isOutside (wp_af ?_))
  refine wp_bq_eq (tgt := 11) dX5_reaches_6 (by decide) (fun h6 => ?_) (fun h6 => ?_)
  · have g0 := out_40.mp h6
    obtain ⟨c, hc, e_c⟩ := cell_in g0
    subst e_c
    refine wp_iload_n dX5_reaches_11 rfl ?_
    refine wp_iconst (v := 1) dX5_reaches_12 (by decide) ?_
    refine wp_icmp_lt (tgt := 23) dX5_reaches_13 (by decide) (fun h13 => ?_) (fun h13 => ?_)
    · refine wp_bipush (v := (-2)) dX5_reaches_23 (by decide) ?_
      exact wp_iret dX5_reaches_25 rfl rfl rfl (hE2 g0 (fun e => by first | exact absurd e.1 (Int32.not_le.mpr h13) | exact h20 e.2))
    · refine wp_iload_n dX5_reaches_16 rfl ?_
      refine wp_sipush (v := 9999) dX5_reaches_17 (by decide) ?_
      refine wp_icmp_le (tgt := 26) dX5_reaches_20 (by decide) (fun h20 => ?_) (fun h20 => ?_)
      · refine wp_aload_n dX5_reaches_26 rfl ?_
        refine wp_getQ fX5_41 tA_8 rfl hC.f6 (by decide) (Nat.le_of_ble_eq_true rfl) dX5_reaches_27 ?_
        refine wp_aload_n dX5_reaches_30 rfl ?_
        refine wp_getQ fX5_10 tA_8 rfl hC.f0 (by decide) (Nat.le_of_ble_eq_true rfl) dX5_reaches_31 ?_
        refine wp_cV1 (z := mX4_copyFrom) (n' := 247) kX5_44 dX5_reaches_34 (Nat.le_of_ble_eq_true rfl) (Nat.le_of_ble_eq_true rfl) tb175.t0.1 (by have := tb175.lt; omega) (Nat.le_of_ble_eq_true rfl) (Nat.le_refl _) (Nat.le_refl _) (s_X4_copyFrom tb175 h175 tb9 h9 (by omega) h.tk h.ok.1 (fun M1 g1 g2 => (wp_af0 ?_)))
        refine wp_iconst (v := 0) dX5_reaches_37 (by decide) ?_
        refine wp_istore_n (L' := [some (.ref 8), some (.int (nI c)), some (.int far), some (.int _)]) dX5_reaches_38 (by decide) rfl ?_
        exact loop c hc (fun M1 g => hK c hc rfl ⟨Int32.not_lt.mp h13, h20⟩ M1 (h.side (Or.inr rfl) g) (FC.side (Or.inr rfl) g)) 500 0 M1 rfl rfl g1 g2
      · refine wp_bipush (v := (-2)) dX5_reaches_23 (by decide) ?_
        exact wp_iret dX5_reaches_25 rfl rfl rfl (hE2 g0 (fun e => by first | exact absurd e.1 (Int32.not_le.mpr h13) | exact h20 e.2))
  · refine wp_iconst (v := (-1)) dX5_reaches_9 (by decide) ?_
    exact wp_iret dX5_reaches_10 rfl rfl rfl (hE1 (fun e => (out_40.mpr e) h6))

set_option maxRecDepth 100000 in
set_option maxHeartbeats 4000000 in
theorem s_X5_calmIn {γ : Gm} {l : Launch} {M : Mm} {R : Rm} {K : KT} {sg tx F : Nat → Int32} {rc pl : Nat} {hs S : Nat → Nat → Int32}  (h : IC M R sg rc hs F S tx pl) (hK : ∀ M1, IC M1 R sg rc hs F S tx pl → FC M M1 R R → K (some (.int (ccF (fun i => swN (psF 0 (nG sg) (up sg 4 0) i) 40) 500 0))) 247 M1 R) : CL γ l mX5_calmIn 4 247 247 [.ref 8] M R K := by
  show WP γ l mX5_calmIn 4 247 247 0 [some (.ref 8), none] [] 247 M R K
  have hC := h.ib.gr.rc
  have h9 := h.ib.gr.r9
  have h175 := h.ib.gr.r175
  have ho0 := h.ok.1.none
  have hb0 : BdL (up sg 4 0) := h.ok.2.same fun j _ _ => up_n _ _ (by omega)
  have hR : ∀ M1, FrM 175 M M1 → K (some (.int (ccF (fun i => swN (psF 0 (nG sg) (up sg 4 0) i) 40) 500 0))) 247 M1 R := fun M1 g => hK M1 (h.side (Or.inr rfl) g) (FC.side (Or.inr rfl) g)
  have loop : ∀ (f w : Nat) (M1 : Mm), f + w = 500 → ccF (fun i => swN (psF 0 (nG sg) (up sg 4 0) i) 40) f w = ccF (fun i => swN (psF 0 (nG sg) (up sg 4 0) i) 40) 500 0 → FrM 175 M M1 → Tk M1 R 175 0 (nG sg) (psF 0 (nG sg) (up sg 4 0) w) → WP γ l mX5_calmIn 4 247 247 21 [some (.ref 8), some (.int (nI w))] [] 247 M1 R K := by
    intro f
    have out : ∀ M1, K (some (.int (-6))) 247 M1 R → WP γ l mX5_calmIn 4 247 247 21 [some (.ref 8), some (.int (nI 501))] [] 247 M1 R K := by
      intro M1 hk
      refine wp_iload_n dX5_calmIn_21 rfl ?_
      refine wp_sipush (v := 500) dX5_calmIn_22 (by decide) ?_
      refine wp_icN_gt (a := 501) (b := 500) (tgt := 54) dX5_calmIn_25 (by decide) rfl rfl (by omega) (by omega) (fun _ => ?_) (fun h => absurd h (by decide))
      refine wp_bipush (v := (-6)) dX5_calmIn_54 (by decide) ?_
      exact wp_iret dX5_calmIn_56 rfl rfl rfl (hk)
    induction f with
    | zero =>
      intro w M1 hw he g3 g4
      obtain rfl : w = 500 := by omega
      rw [ccF] at he
      refine wp_iload_n dX5_calmIn_21 rfl ?_
      refine wp_sipush (v := 500) dX5_calmIn_22 (by decide) ?_
      refine wp_icN_gt (a := 500) (b := 500) (tgt := 54) dX5_calmIn_25 (by decide) rfl rfl (by omega) (by omega) (fun h => absurd h (by decide)) (fun _ => ?_)
      refine wp_aload_n dX5_calmIn_28 rfl ?_
      refine wp_getQ fX5_41 tA_8 rfl hC.f6 (by decide) (Nat.le_of_ble_eq_true rfl) dX5_calmIn_29 ?_
      refine wp_cV0 (z := mX4_isCalm) (n' := 247) kX5_210 dX5_calmIn_32 (Nat.le_of_ble_eq_true rfl) (Nat.le_of_ble_eq_true rfl) tb175.t0.1 (by have := tb175.lt; omega) (Nat.le_of_ble_eq_true rfl) (Nat.le_refl _) (Nat.le_refl _) (s_X4_isCalm tb175 h175 g4 (hb0.kpsF ho0 _) (wp_af ?_))
      refine wp_if_eq (tgt := 40) dX5_calmIn_35 (by decide) (fun h35 => ?_) (fun h35 => ?_)
      · have q35 : 0 < swN (psF 0 (nG sg) (up sg 4 0) 500) 40 := by
          by_cases q : 0 < swN (psF 0 (nG sg) (up sg 4 0) 500) 40
          · exact q
          · rw [if_neg q] at h35
            exact absurd h35 (by decide)
        rw [if_pos q35] at he
        refine wp_aload_n dX5_calmIn_40 rfl ?_
        refine wp_getQ fX5_41 tA_8 rfl hC.f6 (by decide) (Nat.le_of_ble_eq_true rfl) dX5_calmIn_41 ?_
        refine wp_cV0 (z := mX4_step) (n' := 247) kX5_200 dX5_calmIn_44 (Nat.le_of_ble_eq_true rfl) (Nat.le_of_ble_eq_true rfl) tb175.t0.1 (by have := tb175.lt; omega) (Nat.le_of_ble_eq_true rfl) (Nat.le_refl _) (Nat.le_refl _) (s_X4_step tb175 h175 g4 (ho0.kpsF _) (fun M3 g5 g6 => (wp_af ?_)))
        refine wp_pop dX5_calmIn_47 rfl ?_
        refine wp_iinc (v := nI (500 + 1)) (L' := [some (.ref 8), some (.int (nI (500 + 1)))]) dX5_calmIn_48 (by decide) rfl (inc_1 _) rfl ?_
        refine wp_goto (tgt := 21) dX5_calmIn_51 (by decide) ?_
        exact out _ (by rw [← he] at hR; exact hR _ (g3.tr g5))
      · have q35 : ¬ 0 < swN (psF 0 (nG sg) (up sg 4 0) 500) 40 := fun q => h35 (if_pos q)
        rw [if_neg q35] at he
        refine wp_iload_n dX5_calmIn_38 rfl ?_
        exact wp_iret dX5_calmIn_39 rfl rfl rfl (by rw [← he] at hR; exact hR M1 g3)
    | succ f ih =>
      intro w M1 hw he g3 g4
      rw [ccF] at he
      refine wp_iload_n dX5_calmIn_21 rfl ?_
      refine wp_sipush (v := 500) dX5_calmIn_22 (by decide) ?_
      refine wp_icN_gt (a := w) (b := 500) (tgt := 54) dX5_calmIn_25 (by decide) rfl rfl (by omega) (by omega) (fun h25 => absurd h25 (by omega)) (fun h25 => ?_)
      refine wp_aload_n dX5_calmIn_28 rfl ?_
      refine wp_getQ fX5_41 tA_8 rfl hC.f6 (by decide) (Nat.le_of_ble_eq_true rfl) dX5_calmIn_29 ?_
      refine wp_cV0 (z := mX4_isCalm) (n' := 247) kX5_210 dX5_calmIn_32 (Nat.le_of_ble_eq_true rfl) (Nat.le_of_ble_eq_true rfl) tb175.t0.1 (by have := tb175.lt; omega) (Nat.le_of_ble_eq_true rfl) (Nat.le_refl _) (Nat.le_refl _) (s_X4_isCalm tb175 h175 g4 (hb0.kpsF ho0 _) (wp_af ?_))
      refine wp_if_eq (tgt := 40) dX5_calmIn_35 (by decide) (fun h35 => ?_) (fun h35 => ?_)
      · have q35 : 0 < swN (psF 0 (nG sg) (up sg 4 0) w) 40 := by
          by_cases q : 0 < swN (psF 0 (nG sg) (up sg 4 0) w) 40
          · exact q
          · rw [if_neg q] at h35
            exact absurd h35 (by decide)
        rw [if_pos q35] at he
        refine wp_aload_n dX5_calmIn_40 rfl ?_
        refine wp_getQ fX5_41 tA_8 rfl hC.f6 (by decide) (Nat.le_of_ble_eq_true rfl) dX5_calmIn_41 ?_
        refine wp_cV0 (z := mX4_step) (n' := 247) kX5_200 dX5_calmIn_44 (Nat.le_of_ble_eq_true rfl) (Nat.le_of_ble_eq_true rfl) tb175.t0.1 (by have := tb175.lt; omega) (Nat.le_of_ble_eq_true rfl) (Nat.le_refl _) (Nat.le_refl _) (s_X4_step tb175 h175 g4 (ho0.kpsF _) (fun M3 g5 g6 => (wp_af ?_)))
        refine wp_pop dX5_calmIn_47 rfl ?_
        refine wp_iinc (v := nI (w + 1)) (L' := [some (.ref 8), some (.int (nI (w + 1)))]) dX5_calmIn_48 (by decide) rfl (inc_1 _) rfl ?_
        refine wp_goto (tgt := 21) dX5_calmIn_51 (by decide) ?_
        exact ih (w + 1) _ (by omega) he (g3.tr g5) g6
      · have q35 : ¬ 0 < swN (psF 0 (nG sg) (up sg 4 0) w) 40 := fun q => h35 (if_pos q)
        rw [if_neg q35] at he
        refine wp_iload_n dX5_calmIn_38 rfl ?_
        exact wp_iret dX5_calmIn_39 rfl rfl rfl (by rw [← he] at hR; exact hR M1 g3)
  refine wp_aload_n dX5_calmIn_0 rfl ?_
  refine wp_getQ fX5_41 tA_8 rfl hC.f6 (by decide) (Nat.le_of_ble_eq_true rfl) dX5_calmIn_1 ?_
  refine wp_aload_n dX5_calmIn_4 rfl ?_
  refine wp_getQ fX5_10 tA_8 rfl hC.f0 (by decide) (Nat.le_of_ble_eq_true rfl) dX5_calmIn_5 ?_
  refine wp_cV1 (z := mX4_copyFrom) (n' := 247) kX5_44 dX5_calmIn_8 (Nat.le_of_ble_eq_true rfl) (Nat.le_of_ble_eq_true rfl) tb175.t0.1 (by have := tb175.lt; omega) (Nat.le_of_ble_eq_true rfl) (Nat.le_refl _) (Nat.le_refl _) (s_X4_copyFrom tb175 h175 tb9 h9 (by omega) h.tk h.ok.1 (fun M1 g1 g2 => (wp_af0 ?_)))
  refine wp_aload_n dX5_calmIn_11 rfl ?_
  refine wp_getQ fX5_41 tA_8 rfl hC.f6 (by decide) (Nat.le_of_ble_eq_true rfl) dX5_calmIn_12 ?_
  refine wp_iconst (v := 0) dX5_calmIn_15 (by decide) ?_
  refine wp_putI pX5_100 tb175.t0.1 rfl ⟨rfl, rfl⟩ (by have := tb175.lt; omega) dX5_calmIn_16 ?_
  refine wp_iconst (v := 0) dX5_calmIn_19 (by decide) ?_
  refine wp_istore_n (L' := [some (.ref 8), some (.int _)]) dX5_calmIn_20 (by decide) rfl ?_
  have t0 := g2.unp h175 h.ok.p6 0
  refine loop 500 0 _ rfl rfl (g1.u (by omega) (by omega)) ⟨t0.1, t0.2.1, t0.2.2.1, t0.2.2.2.1, fun k hk => absurd hk (by omega), t0.2.2.2.2.2⟩

theorem pk_ge (np ng c : Nat) (sg : Nat → Int32) : ∀ w, 0 ≤ pkN np ng c sg w
  | 0 => Int32.le_refl 0
  | w + 1 => by
    have ih := pk_ge np ng c sg w
    rw [pkN]
    split
    · exact ih
    · rename_i g
      exact Int32.le_trans ih (Int32.le_of_lt (Int32.not_le.mp g))
theorem pk_max (np ng c : Nat) (sg : Nat → Int32) (w : Nat) : mxI (pkN np ng c sg w) (szI (psF np ng sg (w + 1) (6 + c))) = pkN np ng c sg (w + 1) := by
  rw [pkN]
  unfold mxI
  by_cases g : szI (psF np ng sg (w + 1) (6 + c)) ≤ pkN np ng c sg w
  · rw [if_pos g, if_neg (Int32.not_lt.mpr g)]
  · rw [if_neg g, if_pos (Int32.not_le.mp g)]
set_option maxRecDepth 100000 in
set_option maxHeartbeats 4000000 in
theorem s_X5_peakWithPeriod {γ : Gm} {l : Launch} {M : Mm} {R : Rm} {K : KT} {sg tx F : Nat → Int32} {rc pl : Nat} {hs S : Nat → Nat → Int32} {k p c m : Nat}  (h : IC M R sg rc hs F S tx pl) (hk : k < nP sg) (hp1 : 1 ≤ p) (hp2 : p ≤ 60) (hc : c < 40) (hm : m < 100) (hK : ∀ M1, FrM 175 M M1 → K (some (.int (pkN (nP sg) (nG sg) c (up sg (86 + 6 * k + 3) (nI p)) m))) 247 M1 R) : CL γ l mX5_peakWithPeriod 4 247 247 [.ref 8, .int (nI k), .int (nI p), .int (nI c), .int (nI m)] M R K := by
  show WP γ l mX5_peakWithPeriod 4 247 247 0 [some (.ref 8), some (.int (nI k)), some (.int (nI p)), some (.int (nI c)), some (.int (nI m)), none, none] [] 247 M R K
  have hC := h.ib.gr.rc
  have h9 := h.ib.gr.r9
  have h175 := h.ib.gr.r175
  have h6 := h.ok.p6
  have ho0 := h.ok.1.period hk hp1 hp2
  have loop : ∀ (q w : Nat) (x : Int32) (M1 : Mm), q + w = m → x = pkN (nP sg) (nG sg) c (up sg (86 + 6 * k + 3) (nI p)) w → FrM 175 M M1 → Tk M1 R 175 (nP sg) (nG sg) (psF (nP sg) (nG sg) (up sg (86 + 6 * k + 3) (nI p)) w) → WP γ l mX5_peakWithPeriod 4 247 247 30 [some (.ref 8), some (.int (nI k)), some (.int (nI p)), some (.int (nI c)), some (.int (nI m)), some (.int x), some (.int (nI w))] [] 247 M1 R K := by
    intro q
    induction q with
    | zero =>
      intro w x M1 hq hx g3 g4
      refine wp_iload dX5_peakWithPeriod_30 rfl ?_
      refine wp_iload dX5_peakWithPeriod_32 rfl ?_
      refine wp_icN_ge (a := w) (b := m) (tgt := 70) dX5_peakWithPeriod_34 (by decide) rfl rfl (by omega) (by omega) (fun h34 => ?_) (fun h34 => absurd h34 (by omega))
      refine wp_iload dX5_peakWithPeriod_70 rfl ?_
      exact wp_iret dX5_peakWithPeriod_72 rfl rfl rfl (by rw [hx, show w = m by omega]; exact hK M1 g3)
    | succ q ih =>
      intro w x M1 hq hx g3 g4
      refine wp_iload dX5_peakWithPeriod_30 rfl ?_
      refine wp_iload dX5_peakWithPeriod_32 rfl ?_
      refine wp_icN_ge (a := w) (b := m) (tgt := 70) dX5_peakWithPeriod_34 (by decide) rfl rfl (by omega) (by omega) (fun h34 => absurd h34 (by omega)) (fun h34 => ?_)
      refine wp_aload_n dX5_peakWithPeriod_37 rfl ?_
      refine wp_getQ fX5_41 tA_8 rfl hC.f6 (by decide) (Nat.le_of_ble_eq_true rfl) dX5_peakWithPeriod_38 ?_
      refine wp_cV0 (z := mX4_step) (n' := 247) kX5_200 dX5_peakWithPeriod_41 (Nat.le_of_ble_eq_true rfl) (Nat.le_of_ble_eq_true rfl) tb175.t0.1 (by have := tb175.lt; omega) (Nat.le_of_ble_eq_true rfl) (Nat.le_refl _) (Nat.le_refl _) (s_X4_step tb175 h175 g4 (ho0.kpsF _) (fun M3 g5 g6 => (wp_af ?_)))
      refine wp_pop dX5_peakWithPeriod_44 rfl ?_
      refine wp_iload dX5_peakWithPeriod_45 rfl ?_
      refine wp_aload_n dX5_peakWithPeriod_47 rfl ?_
      refine wp_getQ fX5_41 tA_8 rfl hC.f6 (by decide) (Nat.le_of_ble_eq_true rfl) dX5_peakWithPeriod_48 ?_
      refine wp_getQ fX5_82 tb175.t0.1 rfl h175.f1 (by omega) (by have := tb175.lt; omega) dX5_peakWithPeriod_51 ?_
      refine wp_iload_n dX5_peakWithPeriod_54 rfl ?_
      refine wp_iadn (i := c) rfl tb175.t2.1 (by have := tb175.lt; omega) (by rw [tb175.t2.2]; omega) (by have := tb175.lt; omega) dX5_peakWithPeriod_55 (g6.clev hc) ?_
      refine wp_cS1 (z := mJ9_abs_0f7a4) (n' := 247) kX5_195 dX5_peakWithPeriod_56 (Nat.le_of_ble_eq_true rfl) (Nat.le_of_ble_eq_true rfl) (Nat.le_of_ble_eq_true rfl) (Nat.le_refl _) (Nat.le_refl _) (s_J9_abs_0f7a4 (wp_af ?_))
      refine wp_cS2 (z := mJ9_max_7cf53) (n' := 247) kX5_207 dX5_peakWithPeriod_59 (Nat.le_of_ble_eq_true rfl) (Nat.le_of_ble_eq_true rfl) (Nat.le_of_ble_eq_true rfl) (Nat.le_refl _) (Nat.le_refl _) (s_J9_max_7cf53 (wp_af ?_))
      refine wp_istore (L' := [some (.ref 8), some (.int (nI k)), some (.int (nI p)), some (.int (nI c)), some (.int (nI m)), some (.int _), some (.int (nI w))]) dX5_peakWithPeriod_62 (by decide) rfl ?_
      refine wp_iinc (v := nI (w + 1)) (L' := [some (.ref 8), some (.int (nI k)), some (.int (nI p)), some (.int (nI c)), some (.int (nI m)), some (.int _), some (.int (nI (w + 1)))]) dX5_peakWithPeriod_64 (by decide) rfl (inc_1 _) rfl ?_
      refine wp_goto (tgt := 30) dX5_peakWithPeriod_67 (by decide) ?_
      exact ih (w + 1) _ M3 (by omega) (by rw [hx]; exact pk_max _ _ _ _ _) (g3.tr g5) g6
  obtain ⟨pd, hpd⟩ : ∃ pd, pd = R (175 + 4) k := ⟨_, rfl⟩
  have hp : 175 + 6 ≤ pd ∧ pd < 175 + 12 := by rw [hpd]; exact h175.2.2.1 k (by omega)
  refine wp_aload_n dX5_peakWithPeriod_0 rfl ?_
  refine wp_getQ fX5_41 tA_8 rfl hC.f6 (by decide) (Nat.le_of_ble_eq_true rfl) dX5_peakWithPeriod_1 ?_
  refine wp_aload_n dX5_peakWithPeriod_4 rfl ?_
  refine wp_getQ fX5_10 tA_8 rfl hC.f0 (by decide) (Nat.le_of_ble_eq_true rfl) dX5_peakWithPeriod_5 ?_
  refine wp_cV1 (z := mX4_copyFrom) (n' := 247) kX5_44 dX5_peakWithPeriod_8 (Nat.le_of_ble_eq_true rfl) (Nat.le_of_ble_eq_true rfl) tb175.t0.1 (by have := tb175.lt; omega) (Nat.le_of_ble_eq_true rfl) (Nat.le_refl _) (Nat.le_refl _) (s_X4_copyFrom tb175 h175 tb9 h9 (by omega) h.tk h.ok.1 (fun M1 g1 g2 => (wp_af0 ?_)))
  refine wp_aload_n dX5_peakWithPeriod_11 rfl ?_
  refine wp_getQ fX5_41 tA_8 rfl hC.f6 (by decide) (Nat.le_of_ble_eq_true rfl) dX5_peakWithPeriod_12 ?_
  refine wp_getQ fX5_104 tb175.t0.1 rfl h175.f3 (by omega) (by have := tb175.lt; omega) dX5_peakWithPeriod_15 ?_
  refine wp_iload_n dX5_peakWithPeriod_18 rfl ?_
  refine wp_aalq (i := k) rfl (by rw [tb175.t4.1]; decide) (by rw [tb175.t4.2]; omega) (hpd.symm) (by omega) (by have := tb175.lt; omega) dX5_peakWithPeriod_19 ?_
  refine wp_iload_n dX5_peakWithPeriod_20 rfl ?_
  refine wp_putI pX5_119 (tb175.tp hp.1 hp.2).1 rfl ⟨rfl, rfl⟩ (by have := tb175.lt; omega) dX5_peakWithPeriod_21 ?_
  refine wp_iconst (v := 0) dX5_peakWithPeriod_24 (by decide) ?_
  refine wp_istore (L' := [some (.ref 8), some (.int (nI k)), some (.int (nI p)), some (.int (nI c)), some (.int (nI m)), some (.int _), none]) dX5_peakWithPeriod_25 (by decide) rfl ?_
  refine wp_iconst (v := 0) dX5_peakWithPeriod_27 (by decide) ?_
  refine wp_istore (L' := [some (.ref 8), some (.int (nI k)), some (.int (nI p)), some (.int (nI c)), some (.int (nI m)), some (.int _), some (.int _)]) dX5_peakWithPeriod_28 (by decide) rfl ?_
  exact loop m 0 0 _ rfl rfl (g1.u (by omega) (by omega)) (by rw [hpd]; exact g2.upad h175 h6 hk (by decide) (nI p))

theorem out_2 {x : Int32} : ¬ (x < 0 ∨ 2 ≤ x) ↔ (0 ≤ x ∧ x ≤ 1) := by
  have e0 : (0 : Int32).toInt = 0 := by decide
  have e1 : (1 : Int32).toInt = 1 := by decide
  have e4 : (2 : Int32).toInt = 2 := by decide
  simp only [Int32.lt_iff_toInt_lt, Int32.le_iff_toInt_le, e0, e1, e4]
  omega
set_option maxRecDepth 100000 in
set_option maxHeartbeats 4000000 in
theorem s_X5_bestPeriod {γ : Gm} {l : Launch} {M : Mm} {R : Rm} {K : KT} {sg tx F : Nat → Int32} {rc pl : Nat} {hs S : Nat → Nat → Int32} {k0 c0 m0 z : Int32}  (h : IC M R sg rc hs F S tx pl) (hE1 : ¬ ((0 ≤ k0 ∧ k0 < nI (nP sg)) ∧ (0 ≤ c0 ∧ c0 ≤ 39)) → K (some (.int (-1))) 247 M R) (hE2 : ((0 ≤ k0 ∧ k0 < nI (nP sg)) ∧ (0 ≤ c0 ∧ c0 ≤ 39)) → ¬ ((1 ≤ m0 ∧ m0 ≤ 99) ∧ (0 ≤ z ∧ z ≤ 1)) → K (some (.int (-2))) 247 M R) (hK : ∀ k c m, k < nP sg → c < 40 → m < 100 → k0 = nI k → c0 = nI c → m0 = nI m → (0 ≤ z ∧ z ≤ 1) → ∀ M1, IC M1 R sg rc hs F S tx pl → FC M M1 R R → K (some (.int (if z = 0 then (bpN (nP sg) (nG sg) k c m sg 60).1 else (bpN (nP sg) (nG sg) k c m sg 60).2))) 247 M1 R) : CL γ l mX5_bestPeriod 5 247 247 [.ref 8, .int k0, .int c0, .int m0, .int z] M R K := by
  show WP γ l mX5_bestPeriod 5 247 247 0 [some (.ref 8), some (.int k0), some (.int c0), some (.int m0), some (.int z), none, none, none, none] [] 247 M R K
  have hC := h.ib.gr.rc
  have h9 := h.ib.gr.r9
  have h175 := h.ib.gr.r175
  have h6 := h.ok.p6
  have loop : ∀ k c m, k < nP sg → c < 40 → m < 100 → ∀ T : Int32 × Int32, T = bpN (nP sg) (nG sg) k c m sg 60 → (∀ M1, FrM 175 M M1 → K (some (.int (if z = 0 then T.1 else T.2))) 247 M1 R) → ∀ (q w : Nat) (x y : Int32) (M1 : Mm) (t8 : Option Value), q + w = 60 → ((w = 0 ∧ y = -1) ∨ (1 ≤ w ∧ x = (bpN (nP sg) (nG sg) k c m sg w).1 ∧ y = (bpN (nP sg) (nG sg) k c m sg w).2)) → FrM 175 M M1 → WP γ l mX5_bestPeriod 5 247 247 57 [some (.ref 8), some (.int (nI k)), some (.int (nI c)), some (.int (nI m)), some (.int z), some (.int x), some (.int y), some (.int (nI (w + 1))), t8] [] 247 M1 R K := by
    intro k c m hk hc hm T hT hR q
    induction q with
    | zero =>
      intro w x y M1 t8 hq hx g3
      have ew : w = 60 := by omega
      have eT : T = bpN (nP sg) (nG sg) k c m sg w := by rw [ew]; exact hT
      have ex : x = T.1 := by
        rcases hx with e | e
        · omega
        · rw [eT]
          exact e.2.1
      have ey : y = T.2 := by
        rcases hx with e | e
        · omega
        · rw [eT]
          exact e.2.2
      refine wp_drop [some (.ref 8), some (.int (nI k)), some (.int (nI c)), some (.int (nI m)), some (.int z), some (.int x), some (.int y), some (.int (nI (w + 1))), none] (by simp [leL]) ?_
      refine wp_iload dX5_bestPeriod_57 rfl ?_
      refine wp_bipush (v := 60) dX5_bestPeriod_59 (by decide) ?_
      refine wp_icN_gt (a := (w + 1)) (b := 60) (tgt := 96) dX5_bestPeriod_61 (by decide) rfl rfl (by omega) (by omega) (fun h61 => ?_) (fun h61 => absurd h61 (by omega))
      refine wp_iload dX5_bestPeriod_96 rfl ?_
      refine wp_if_ne (tgt := 106) dX5_bestPeriod_98 (by decide) (fun h98 => ?_) (fun h98 => ?_)
      · refine wp_iload dX5_bestPeriod_106 rfl ?_
        exact wp_iret dX5_bestPeriod_108 rfl rfl rfl (by first | (rw [if_pos h98, ← ex] at hR; exact hR M1 g3) | (rw [if_neg h98, ← ey] at hR; exact hR M1 g3))
      · refine wp_iload dX5_bestPeriod_101 rfl ?_
        refine wp_goto (tgt := 108) dX5_bestPeriod_103 (by decide) ?_
        exact wp_iret dX5_bestPeriod_108 rfl rfl rfl (by first | (rw [if_pos h98, ← ex] at hR; exact hR M1 g3) | (rw [if_neg h98, ← ey] at hR; exact hR M1 g3))
    | succ q ih =>
      intro w x y M1 t8 hq hx g3
      have hpk := pk_ge (nP sg) (nG sg) c (up sg (86 + 6 * k + 3) (nI (w + 1))) m
      have eb : bpN (nP sg) (nG sg) k c m sg (w + 1) = if pkN (nP sg) (nG sg) c (up sg (86 + 6 * k + 3) (nI (w + 1))) m ≤ (bpN (nP sg) (nG sg) k c m sg w).2 then bpN (nP sg) (nG sg) k c m sg w else (nI (w + 1), pkN (nP sg) (nG sg) c (up sg (86 + 6 * k + 3) (nI (w + 1))) m) := rfl
      refine wp_drop [some (.ref 8), some (.int (nI k)), some (.int (nI c)), some (.int (nI m)), some (.int z), some (.int x), some (.int y), some (.int (nI (w + 1))), none] (by simp [leL]) ?_
      refine wp_iload dX5_bestPeriod_57 rfl ?_
      refine wp_bipush (v := 60) dX5_bestPeriod_59 (by decide) ?_
      refine wp_icN_gt (a := (w + 1)) (b := 60) (tgt := 96) dX5_bestPeriod_61 (by decide) rfl rfl (by omega) (by omega) (fun h61 => absurd h61 (by omega)) (fun h61 => ?_)
      refine wp_aload_n dX5_bestPeriod_64 rfl ?_
      refine wp_iload_n dX5_bestPeriod_65 rfl ?_
      refine wp_iload dX5_bestPeriod_66 rfl ?_
      refine wp_iload_n dX5_bestPeriod_68 rfl ?_
      refine wp_iload_n dX5_bestPeriod_69 rfl ?_
      refine wp_cV4 (z := mX5_peakWithPeriod) (n' := 247) kX5_203 dX5_bestPeriod_70 (Nat.le_of_ble_eq_true rfl) (Nat.le_of_ble_eq_true rfl) tA_8 (Nat.le_of_ble_eq_true rfl) (Nat.le_of_ble_eq_true rfl) (Nat.le_refl _) (Nat.le_refl _) (s_X5_peakWithPeriod (h.side (Or.inr rfl) g3) hk (by omega) (by omega) hc hm (fun M3 g5 => (wp_af ?_)))
      refine wp_istore (L' := [some (.ref 8), some (.int (nI k)), some (.int (nI c)), some (.int (nI m)), some (.int z), some (.int x), some (.int y), some (.int (nI (w + 1))), some (.int (pkN (nP sg) (nG sg) c (up sg (86 + 6 * k + 3) (nI (w + 1))) m))]) dX5_bestPeriod_73 (by decide) rfl ?_
      refine wp_iload dX5_bestPeriod_75 rfl ?_
      refine wp_iload dX5_bestPeriod_77 rfl ?_
      refine wp_icmp_le (tgt := 90) dX5_bestPeriod_79 (by decide) (fun h79 => ?_) (fun h79 => ?_)
      · refine wp_iinc (v := nI ((w + 1) + 1)) (L' := [some (.ref 8), some (.int (nI k)), some (.int (nI c)), some (.int (nI m)), some (.int z), some (.int x), some (.int y), some (.int (nI ((w + 1) + 1))), some (.int (pkN (nP sg) (nG sg) c (up sg (86 + 6 * k + 3) (nI (w + 1))) m))]) dX5_bestPeriod_90 (by decide) rfl (inc_1 _) rfl ?_
        refine wp_goto (tgt := 57) dX5_bestPeriod_93 (by decide) ?_
        refine ih (w + 1) _ _ M3 _ (by omega) (Or.inr ⟨by omega, ?_⟩) (g3.tr g5)
        rcases hx with ⟨e1, e2⟩ | ⟨e1, e2, e3⟩
        · have g9 : ¬ (pkN (nP sg) (nG sg) c (up sg (86 + 6 * k + 3) (nI (w + 1))) m) ≤ -1 := fun g => absurd (Int32.le_trans hpk g) (by decide)
          first
            | exact absurd (by rw [← e2]; exact h79) g9
            | (rw [eb, e1]
               subst e1
               rw [show (bpN (nP sg) (nG sg) k c m sg 0).2 = -1 from rfl, if_neg g9]
               exact ⟨rfl, rfl⟩)
        · rw [eb, ← e3]
          first
            | (rw [if_pos h79]; exact ⟨e2, e3⟩)
            | (rw [if_neg h79]; exact ⟨rfl, rfl⟩)
      · refine wp_iload dX5_bestPeriod_82 rfl ?_
        refine wp_istore (L' := [some (.ref 8), some (.int (nI k)), some (.int (nI c)), some (.int (nI m)), some (.int z), some (.int x), some (.int (pkN (nP sg) (nG sg) c (up sg (86 + 6 * k + 3) (nI (w + 1))) m)), some (.int (nI (w + 1))), some (.int (pkN (nP sg) (nG sg) c (up sg (86 + 6 * k + 3) (nI (w + 1))) m))]) dX5_bestPeriod_84 (by decide) rfl ?_
        refine wp_iload dX5_bestPeriod_86 rfl ?_
        refine wp_istore (L' := [some (.ref 8), some (.int (nI k)), some (.int (nI c)), some (.int (nI m)), some (.int z), some (.int (nI (w + 1))), some (.int (pkN (nP sg) (nG sg) c (up sg (86 + 6 * k + 3) (nI (w + 1))) m)), some (.int (nI (w + 1))), some (.int (pkN (nP sg) (nG sg) c (up sg (86 + 6 * k + 3) (nI (w + 1))) m))]) dX5_bestPeriod_88 (by decide) rfl ?_
        refine wp_iinc (v := nI ((w + 1) + 1)) (L' := [some (.ref 8), some (.int (nI k)), some (.int (nI c)), some (.int (nI m)), some (.int z), some (.int (nI (w + 1))), some (.int (pkN (nP sg) (nG sg) c (up sg (86 + 6 * k + 3) (nI (w + 1))) m)), some (.int (nI ((w + 1) + 1))), some (.int (pkN (nP sg) (nG sg) c (up sg (86 + 6 * k + 3) (nI (w + 1))) m))]) dX5_bestPeriod_90 (by decide) rfl (inc_1 _) rfl ?_
        refine wp_goto (tgt := 57) dX5_bestPeriod_93 (by decide) ?_
        refine ih (w + 1) _ _ M3 _ (by omega) (Or.inr ⟨by omega, ?_⟩) (g3.tr g5)
        rcases hx with ⟨e1, e2⟩ | ⟨e1, e2, e3⟩
        · have g9 : ¬ (pkN (nP sg) (nG sg) c (up sg (86 + 6 * k + 3) (nI (w + 1))) m) ≤ -1 := fun g => absurd (Int32.le_trans hpk g) (by decide)
          first
            | exact absurd (by rw [← e2]; exact h79) g9
            | (rw [eb, e1]
               subst e1
               rw [show (bpN (nP sg) (nG sg) k c m sg 0).2 = -1 from rfl, if_neg g9]
               exact ⟨rfl, rfl⟩)
        · rw [eb, ← e3]
          first
            | (rw [if_pos h79]; exact ⟨e2, e3⟩)
            | (rw [if_neg h79]; exact ⟨rfl, rfl⟩)
  refine wp_iload_n dX5_bestPeriod_0 rfl ?_
  refine wp_aload_n dX5_bestPeriod_1 rfl ?_
  refine wp_getQ fX5_10 tA_8 rfl hC.f0 (by decide) (Nat.le_of_ble_eq_true rfl) dX5_bestPeriod_2 ?_
  refine wp_getJ (v := nI (nP sg)) fX5_100 tb9.t0.1 rfl (by have := tb9.lt; omega) dX5_bestPeriod_5 (h.tk.cnp.trans h.ok.1.1.1) ?_
  refine wp_cS2 (z := mX5_isOutside) (n' := 247) kX5_78 dX5_bestPeriod_8 (Nat.le_of_ble_eq_true rfl) (Nat.le_of_ble_eq_true rfl) (Nat.le_of_ble_eq_true rfl) (Nat.le_refl _) (Nat.le_refl _) (s_X5_isOutside (wp_af ?_))
  refine wp_bq_ne (tgt := 23) dX5_bestPeriod_11 (by decide) (fun h11 => ?_) (fun h11 => ?_)
  · refine wp_iconst (v := (-1)) dX5_bestPeriod_23 (by decide) ?_
    exact wp_iret dX5_bestPeriod_24 rfl rfl rfl (hE1 (fun e => by first | exact (out_n.mpr e.1) h11 | exact (out_40.mpr e.2) h20))
  · have g11 := out_n.mp h11
    refine wp_iload_n dX5_bestPeriod_14 rfl ?_
    refine wp_bipush (v := 40) dX5_bestPeriod_15 (by decide) ?_
    refine wp_cS2 (z := mX5_isOutside) (n' := 247) kX5_78 dX5_bestPeriod_17 (Nat.le_of_ble_eq_true rfl) (Nat.le_of_ble_eq_true rfl) (Nat.le_of_ble_eq_true rfl) (Nat.le_refl _) (Nat.le_refl _) (s_X5_isOutside (wp_af ?_))
    refine wp_bq_eq (tgt := 25) dX5_bestPeriod_20 (by decide) (fun h20 => ?_) (fun h20 => ?_)
    · have g20 := out_40.mp h20
      have gA : (0 ≤ k0 ∧ k0 < nI (nP sg)) ∧ (0 ≤ c0 ∧ c0 ≤ 39) := ⟨g11, g20⟩
      refine wp_iload_n dX5_bestPeriod_25 rfl ?_
      refine wp_iconst (v := 1) dX5_bestPeriod_26 (by decide) ?_
      refine wp_icmp_lt (tgt := 45) dX5_bestPeriod_27 (by decide) (fun h27 => ?_) (fun h27 => ?_)
      · refine wp_bipush (v := (-2)) dX5_bestPeriod_45 (by decide) ?_
        exact wp_iret dX5_bestPeriod_47 rfl rfl rfl (hE2 gA (fun e => by first | exact absurd e.1.1 (Int32.not_le.mpr h27) | exact absurd e.1.2 (Int32.not_le.mpr h33) | exact (out_2.mpr e.2) h42))
      · refine wp_iload_n dX5_bestPeriod_30 rfl ?_
        refine wp_bipush (v := 99) dX5_bestPeriod_31 (by decide) ?_
        refine wp_icmp_gt (tgt := 45) dX5_bestPeriod_33 (by decide) (fun h33 => ?_) (fun h33 => ?_)
        · refine wp_bipush (v := (-2)) dX5_bestPeriod_45 (by decide) ?_
          exact wp_iret dX5_bestPeriod_47 rfl rfl rfl (hE2 gA (fun e => by first | exact absurd e.1.1 (Int32.not_le.mpr h27) | exact absurd e.1.2 (Int32.not_le.mpr h33) | exact (out_2.mpr e.2) h42))
        · refine wp_iload dX5_bestPeriod_36 rfl ?_
          refine wp_iconst (v := 2) dX5_bestPeriod_38 (by decide) ?_
          refine wp_cS2 (z := mX5_isOutside) (n' := 247) kX5_78 dX5_bestPeriod_39 (Nat.le_of_ble_eq_true rfl) (Nat.le_of_ble_eq_true rfl) (Nat.le_of_ble_eq_true rfl) (Nat.le_refl _) (Nat.le_refl _) (s_X5_isOutside (wp_af ?_))
          refine wp_bq_eq (tgt := 48) dX5_bestPeriod_42 (by decide) (fun h42 => ?_) (fun h42 => ?_)
          · have g42 := out_2.mp h42
            refine wp_iconst (v := 0) dX5_bestPeriod_48 (by decide) ?_
            refine wp_istore (L' := [some (.ref 8), some (.int k0), some (.int c0), some (.int m0), some (.int z), some (.int _), none, none, none]) dX5_bestPeriod_49 (by decide) rfl ?_
            refine wp_iconst (v := (-1)) dX5_bestPeriod_51 (by decide) ?_
            refine wp_istore (L' := [some (.ref 8), some (.int k0), some (.int c0), some (.int m0), some (.int z), some (.int _), some (.int (-1)), none, none]) dX5_bestPeriod_52 (by decide) rfl ?_
            refine wp_iconst (v := 1) dX5_bestPeriod_54 (by decide) ?_
            refine wp_istore (L' := [some (.ref 8), some (.int k0), some (.int c0), some (.int m0), some (.int z), some (.int _), some (.int (-1)), some (.int _), none]) dX5_bestPeriod_55 (by decide) rfl ?_
            obtain ⟨k, hk, e_k⟩ := rank_in (by omega) g11
            obtain ⟨c, hc, e_c⟩ := cell_in g20
            obtain ⟨m, hm, e_m⟩ := num_in ⟨Int32.not_lt.mp h27, Int32.not_lt.mp h33⟩
            subst e_k
            subst e_c
            subst e_m
            exact loop k c m hk hc hm _ rfl (fun M1 g => hK k c m hk hc hm rfl rfl rfl g42 M1 (h.side (Or.inr rfl) g) (FC.side (Or.inr rfl) g)) 60 0 _ _ M _ rfl (Or.inl ⟨rfl, rfl⟩) (FrM.rf 175 M)
          · refine wp_bipush (v := (-2)) dX5_bestPeriod_45 (by decide) ?_
            exact wp_iret dX5_bestPeriod_47 rfl rfl rfl (hE2 gA (fun e => by first | exact absurd e.1.1 (Int32.not_le.mpr h27) | exact absurd e.1.2 (Int32.not_le.mpr h33) | exact (out_2.mpr e.2) h42))
    · refine wp_iconst (v := (-1)) dX5_bestPeriod_23 (by decide) ?_
      exact wp_iret dX5_bestPeriod_24 rfl rfl rfl (hE1 (fun e => by first | exact (out_n.mpr e.1) h11 | exact (out_40.mpr e.2) h20))
