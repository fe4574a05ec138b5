/-! THE CLASS: steps pass -/
theorem Tk.gnote {M M1 : Mm} {R : Rm} {b np ng g m : Nat} {sg : Nat → Int32} (h : Tk M R b np ng sg) (hR : RT R b) (h6 : np ≤ 6) (hg : g < ng) (h4 : ng ≤ 4) (hm : m ≤ 60) (hm2 : sg (122 + 62 * g + 1) = nI m) (e : ∀ a, a ≠ b + 12 + 2 * g → a ≠ b + 13 + 2 * g → M1 a = M a) (hG : GkO M1 b g (nt1 sg g)) : Tk M1 R b np ng (nt1 sg g) := by
  obtain ⟨h1, ⟨h2, h3, h7⟩, h8, h9, h10, h11⟩ := h
  have lo : ∀ j, j ≤ 122 + 62 * g ∨ 184 + 62 * g ≤ j → nt1 sg g j = sg j := fun j hj => nt1_lo hm hm2 hj
  refine ⟨fun i hi => by rw [e _ (by omega) (by omega), lo _ (by omega)]; exact h1 i hi, ⟨by rw [e _ (by omega) (by omega), lo _ (by omega)]; exact h2, by rw [e _ (by omega) (by omega), lo _ (by omega)]; exact h3, by rw [e _ (by omega) (by omega), lo _ (by omega)]; exact h7⟩, fun i hi => by rw [e _ (by omega) (by omega), lo _ (by omega)]; exact h8 i hi, fun i hi => by rw [e _ (by omega) (by omega), lo _ (by omega)]; exact h9 i hi, fun k hk j hj => ?_, fun q hq => ?_⟩
  · have := hR.2.2.1 k (by omega)
    rw [e _ (by omega) (by omega), lo _ (by omega)]
    exact h10 k hk j hj
  · by_cases eq : q = g
    · rw [eq]
      exact hG
    · exact (h11 q hq).congr (e _ (by omega) (by omega)) (e _ (by omega) (by omega)) fun j _ _ => lo j (by omega)
set_option maxRecDepth 100000 in
set_option maxHeartbeats 4000000 in
theorem s_X4_step {γ : Gm} {l : Launch} {M : Mm} {R : Rm} {K : KT} {b np ng : Nat} {sg : Nat → Int32}  (hT : Tb b) (hR : RT R b) (hk : Tk M R b np ng sg) (ho : Ok0 sg np ng) (hK : ∀ M1, FrM b M M1 → Tk M1 R b np ng (stF np ng sg) → K (some (.int (pcN sg np))) 247 M1 R) : CL γ l mX4_step 3 247 247 [.ref b] M R K := by
  show WP γ l mX4_step 3 247 247 0 [some (.ref b), none, none] [] 247 M R K
  have h6 := ho.1.2
  have h4 := ho.2.1.2
  have loop : ∀ (q g : Nat) (st : Int32) (M1 : Mm) (ro : Nat → Int32), st = pcN sg np → q + g = ng → ro = ntN (up (stM np sg) 3 (stM np sg 3 + 1)) g → FrM b M M1 → Tk M1 R b np ng ro → WP γ l mX4_step 3 247 247 25 [some (.ref b), some (.int st), some (.int (nI g))] [] 247 M1 R K := by
    intro q
    induction q with
    | zero =>
      intro g st M1 ro hst hq hro hF hk1
      have ho1 : Ok0 ro np ng := by rw [hro]; exact (ho.kstM.1.kntN ho.kstM.2 g (by omega)).1
      refine wp_iload_n dX4_step_25 rfl ?_
      refine wp_aload_n dX4_step_26 rfl ?_
      refine wp_getJ (v := nI ng) fX4_57 hT.t0.1 rfl (by have := hT.lt; omega) dX4_step_27 (hk1.cng.trans ho1.2.1.1) ?_
      refine wp_icN_ge (a := g) (b := ng) (tgt := 62) dX4_step_30 (by decide) rfl rfl (by omega) (by omega) (fun h30 => ?_) (fun h30 => absurd h30 (by omega))
      refine wp_iload_n dX4_step_62 rfl ?_
      exact wp_iret dX4_step_63 rfl rfl rfl (by rw [hst]; exact hK M1 hF (by rw [show g = ng by omega] at hro; rw [hro] at hk1; exact hk1))
    | succ q ih =>
      intro g st M1 ro hst hq hro hF hk1
      have ho1 : Ok0 ro np ng := by rw [hro]; exact (ho.kstM.1.kntN ho.kstM.2 g (by omega)).1
      have hg : g < 4 := by omega
      obtain ⟨⟨c, hc, hcv⟩, m, hm, hmv, -⟩ := ho1.2.2.2.2.1 g (by omega)
      refine wp_iload_n dX4_step_25 rfl ?_
      refine wp_aload_n dX4_step_26 rfl ?_
      refine wp_getJ (v := nI ng) fX4_57 hT.t0.1 rfl (by have := hT.lt; omega) dX4_step_27 (hk1.cng.trans ho1.2.1.1) ?_
      refine wp_icN_ge (a := g) (b := ng) (tgt := 62) dX4_step_30 (by decide) rfl rfl (by omega) (by omega) (fun h30 => absurd h30 (by omega)) (fun h30 => ?_)
      refine wp_aload_n dX4_step_33 rfl ?_
      refine wp_getQ fX4_37 hT.t0.1 rfl hR.f4 (by omega) (by have := hT.lt; omega) dX4_step_34 ?_
      refine wp_iload_n dX4_step_37 rfl ?_
      refine wp_aalq (i := g) rfl (by rw [hT.t5.1]; decide) (by rw [hT.t5.2]; omega) ((hR.2.1 g hg).1) (by omega) (by have := hT.lt; omega) dX4_step_38 ?_
      refine wp_aload_n dX4_step_39 rfl ?_
      refine wp_getQ fX4_23 hT.t0.1 rfl hR.f1 (by omega) (by have := hT.lt; omega) dX4_step_40 ?_
      refine wp_aload_n dX4_step_43 rfl ?_
      refine wp_getQ fX4_37 hT.t0.1 rfl hR.f4 (by omega) (by have := hT.lt; omega) dX4_step_44 ?_
      refine wp_iload_n dX4_step_47 rfl ?_
      refine wp_aalq (i := g) rfl (by rw [hT.t5.1]; decide) (by rw [hT.t5.2]; omega) ((hR.2.1 g hg).1) (by omega) (by have := hT.lt; omega) dX4_step_48 ?_
      refine wp_getJ (v := nI c) fX4_128 (hT.tg0 hg).1 rfl (by have := hT.lt; omega) dX4_step_49 ((hk1.cgau (by omega)).1.trans hcv) ?_
      refine wp_iadn (i := c) rfl hT.t2.1 (by have := hT.lt; omega) (by rw [hT.t2.2]; omega) (by have := hT.lt; omega) dX4_step_52 (hk1.clev hc) ?_
      refine wp_cV1 (z := mX0_note) (n' := 247) kX4_129 dX4_step_53 (Nat.le_of_ble_eq_true rfl) (Nat.le_of_ble_eq_true rfl) (hT.tg0 hg).1 (by have := hT.lt; omega) (Nat.le_of_ble_eq_true rfl) (Nat.le_refl _) (Nat.le_refl _) (s_X0_note hT hR hg (hk1.cgau (by omega)) ⟨m, hm, hmv⟩ (by rw [ntV, hcv, nI_clamp (by omega)]) (fun M2 hF2 hG2 => (wp_af0 ?_)))
      refine wp_iinc (v := nI (g + 1)) (L' := [some (.ref b), some (.int st), some (.int (nI (g + 1)))]) dX4_step_56 (by decide) rfl (inc_1 _) rfl ?_
      refine wp_goto (tgt := 25) dX4_step_59 (by decide) ?_
      exact ih (g + 1) st M2 _ hst (by omega) (by rw [hro]; rfl) (hF.tr fun a ha => hF2 a (by omega) (by omega)) (hk1.gnote hR h6 (by omega) h4 hm hmv hF2 hG2)
  refine wp_aload_n dX4_step_0 rfl ?_
  refine wp_cV0 (z := mX4_movePaddles) (n' := 247) kX4_119 dX4_step_1 (Nat.le_of_ble_eq_true rfl) (Nat.le_of_ble_eq_true rfl) hT.t0.1 (by have := hT.lt; omega) (Nat.le_of_ble_eq_true rfl) (Nat.le_refl _) (Nat.le_refl _) (s_X4_movePaddles hT hR hk ho (fun M2 hF2 hk2 => (wp_af ?_)))
  refine wp_istore_n (L' := [some (.ref b), some (.int _), none]) dX4_step_4 (by decide) rfl ?_
  refine wp_aload_n dX4_step_5 rfl ?_
  refine wp_cV0 (z := mX4_moveWater) (n' := 247) kX4_122 dX4_step_6 (Nat.le_of_ble_eq_true rfl) (Nat.le_of_ble_eq_true rfl) hT.t0.1 (by have := hT.lt; omega) (Nat.le_of_ble_eq_true rfl) (Nat.le_refl _) (Nat.le_refl _) (s_X4_moveWater hT hR hk2 (ho.kpaN np (Nat.le_refl _)) (fun M3 hF3 hk3 => (wp_af0 ?_)))
  refine wp_aload_n dX4_step_9 rfl ?_
  refine wp_cV0 (z := mX4_calmBeach) (n' := 247) kX4_125 dX4_step_10 (Nat.le_of_ble_eq_true rfl) (Nat.le_of_ble_eq_true rfl) hT.t0.1 (by have := hT.lt; omega) (Nat.le_of_ble_eq_true rfl) (Nat.le_refl _) (Nat.le_refl _) (s_X4_calmBeach hT hR hk3 ((ho.kpaN np (Nat.le_refl _)).congr fun j hj => swB_same (by omega)) (fun M4 hF4 hk4 => (wp_af0 ?_)))
  have hk4 : Tk M4 R b np ng (stM np sg) := hk4
  refine wp_aload_n dX4_step_13 rfl ?_
  refine wp_dup dX4_step_14 rfl ?_
  refine wp_getJ fX4_63 hT.t0.1 rfl (by have := hT.lt; omega) dX4_step_15 (hk4.cstp) ?_
  refine wp_iconst (v := 1) dX4_step_18 (by decide) ?_
  refine wp_iadd dX4_step_19 ?_
  refine wp_putI pX4_63 hT.t0.1 rfl ⟨rfl, rfl⟩ (by have := hT.lt; omega) dX4_step_20 ?_
  refine wp_iconst (v := 0) dX4_step_23 (by decide) ?_
  refine wp_istore_n (L' := [some (.ref b), some (.int _), some (.int _)]) dX4_step_24 (by decide) rfl ?_
  exact loop ng 0 _ _ _ rfl rfl rfl ((hF2.tr (hF3.tr hF4)).u (by omega) (by omega)) (hk4.ustp hR h6 _)

set_option maxRecDepth 100000 in
set_option maxHeartbeats 4000000 in
theorem s_X4_passSteps {γ : Gm} {l : Launch} {M : Mm} {R : Rm} {K : KT} {b np ng : Nat} {sg : Nat → Int32} {m0 : Int32}  (hT : Tb b) (hR : RT R b) (hk : Tk M R b np ng sg) (ho : Ok0 sg np ng) (hE : whyN sg m0 < 0 → K (some (.int (whyN sg m0))) 247 M R) (hK : ¬ whyN sg m0 < 0 → ∀ m, 1 ≤ m → m < 100 → m0 = nI m → ∀ M1, FrM b M M1 → Tk M1 R b np ng (psF np ng sg m) → K (some (.int (psC np ng sg m))) 247 M1 R) : CL γ l mX4_passSteps 4 247 247 [.ref b, .int m0] M R K := by
  show WP γ l mX4_passSteps 4 247 247 0 [some (.ref b), some (.int m0), none, none] [] 247 M R K
  have h6 := ho.1.2
  have h4 := ho.2.1.2
  refine wp_iload_n dX4_passSteps_0 rfl ?_
  refine wp_iconst (v := 1) dX4_passSteps_1 (by decide) ?_
  refine wp_icmp_lt (tgt := 11) dX4_passSteps_2 (by decide) (fun h2 => ?_) (fun h2 => ?_)
  · refine wp_bipush (v := (-2)) dX4_passSteps_11 (by decide) ?_
    exact wp_iret dX4_passSteps_13 rfl rfl rfl (by
      have e : whyN sg m0 = -2 := by first | rw [whyN, if_neg (fun h => absurd h2 (Int32.not_lt.mpr h.1))] | rw [whyN, if_neg (fun h => h8 h.2)]
      rw [e] at hE
      exact hE (by decide))
  · refine wp_iload_n dX4_passSteps_5 rfl ?_
    refine wp_bipush (v := 99) dX4_passSteps_6 (by decide) ?_
    refine wp_icmp_le (tgt := 14) dX4_passSteps_8 (by decide) (fun h8 => ?_) (fun h8 => ?_)
    · refine wp_aload_n dX4_passSteps_14 rfl ?_
      refine wp_getJ fX4_63 hT.t0.1 rfl (by have := hT.lt; omega) dX4_passSteps_15 (hk.cstp) ?_
      refine wp_iload_n dX4_passSteps_18 rfl ?_
      refine wp_iadd dX4_passSteps_19 ?_
      refine wp_ldc (v := 99999) dX4_passSteps_20 q307 ?_
      refine wp_icmp_le (tgt := 28) dX4_passSteps_22 (by decide) (fun h22 => ?_) (fun h22 => ?_)
      · refine wp_iconst (v := 0) dX4_passSteps_28 (by decide) ?_
        refine wp_istore_n (L' := [some (.ref b), some (.int m0), some (.int _), none]) dX4_passSteps_29 (by decide) rfl ?_
        refine wp_iconst (v := 0) dX4_passSteps_30 (by decide) ?_
        refine wp_istore_n (L' := [some (.ref b), some (.int m0), some (.int _), some (.int _)]) dX4_passSteps_31 (by decide) rfl ?_
        have e : whyN sg m0 = 0 := by rw [whyN, if_pos ⟨Int32.not_lt.mp h2, h8⟩, if_neg (Int32.not_lt.mpr h22)]
        obtain ⟨m, hm1, hm2, hme⟩ := whyN_in (sg := sg) (m := m0) (by rw [e]; decide)
        subst hme
        have hK := hK (by rw [e]; decide) m hm1 hm2 rfl
        have loop : ∀ (q k : Nat) (st : Int32) (M1 : Mm), q + k = m → st = psC np ng sg k → FrM b M M1 → Tk M1 R b np ng (psF np ng sg k) → WP γ l mX4_passSteps 4 247 247 32 [some (.ref b), some (.int (nI m)), some (.int st), some (.int (nI k))] [] 247 M1 R K := by
          intro q
          induction q with
          | zero =>
            intro k st M1 hq hst hF hk1
            refine wp_iload_n dX4_passSteps_32 rfl ?_
            refine wp_iload_n dX4_passSteps_33 rfl ?_
            refine wp_icN_ge (a := k) (b := m) (tgt := 50) dX4_passSteps_34 (by decide) rfl rfl (by omega) (by omega) (fun h34 => ?_) (fun h34 => absurd h34 (by omega))
            refine wp_iload_n dX4_passSteps_50 rfl ?_
            exact wp_iret dX4_passSteps_51 rfl rfl rfl (by rw [hst, show k = m by omega]; exact hK M1 hF (by rw [show k = m by omega] at hk1; exact hk1))
          | succ q ih =>
            intro k st M1 hq hst hF hk1
            refine wp_iload_n dX4_passSteps_32 rfl ?_
            refine wp_iload_n dX4_passSteps_33 rfl ?_
            refine wp_icN_ge (a := k) (b := m) (tgt := 50) dX4_passSteps_34 (by decide) rfl rfl (by omega) (by omega) (fun h34 => absurd h34 (by omega)) (fun h34 => ?_)
            refine wp_iload_n dX4_passSteps_37 rfl ?_
            refine wp_aload_n dX4_passSteps_38 rfl ?_
            refine wp_cV0 (z := mX4_step) (n' := 247) kX4_115 dX4_passSteps_39 (Nat.le_of_ble_eq_true rfl) (Nat.le_of_ble_eq_true rfl) hT.t0.1 (by have := hT.lt; omega) (Nat.le_of_ble_eq_true rfl) (Nat.le_refl _) (Nat.le_refl _) (s_X4_step hT hR hk1 (ho.kpsF k) (fun M2 hF2 hk2 => (wp_af ?_)))
            refine wp_iadd dX4_passSteps_42 ?_
            refine wp_istore_n (L' := [some (.ref b), some (.int (nI m)), some (.int _), some (.int (nI k))]) dX4_passSteps_43 (by decide) rfl ?_
            refine wp_iinc (v := nI (k + 1)) (L' := [some (.ref b), some (.int (nI m)), some (.int _), some (.int (nI (k + 1)))]) dX4_passSteps_44 (by decide) rfl (inc_1 _) rfl ?_
            refine wp_goto (tgt := 32) dX4_passSteps_47 (by decide) ?_
            exact ih (k + 1) _ M2 (by omega) (by rw [hst]; rfl) (hF.tr hF2) hk2
        exact loop m 0 0 M rfl rfl (FrM.rf b M) hk
      · refine wp_bipush (v := (-5)) dX4_passSteps_25 (by decide) ?_
        exact wp_iret dX4_passSteps_27 rfl rfl rfl (by
      have e : whyN sg m0 = -5 := by rw [whyN, if_pos ⟨Int32.not_lt.mp h2, h8⟩, if_pos (Int32.not_le.mp h22)]
      rw [e] at hE
      exact hE (by decide))
    · refine wp_bipush (v := (-2)) dX4_passSteps_11 (by decide) ?_
      exact wp_iret dX4_passSteps_13 rfl rfl rfl (by
      have e : whyN sg m0 = -2 := by first | rw [whyN, if_neg (fun h => absurd h2 (Int32.not_lt.mpr h.1))] | rw [whyN, if_neg (fun h => h8 h.2)]
      rw [e] at hE
      exact hE (by decide))
