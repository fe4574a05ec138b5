/-! THE CLASS: gauges placed -/
theorem Tk.kcg {M : Mm} {R : Rm} {b np ng : Nat} {sg : Nat → Int32} {c : Int32} (h : Tk M R b np ng sg) (hR : RT R b) (h6 : np ≤ 6) (h4 : ng < 4) : Tk (u2 (u2 (u2 (u2 M (b + 12 + 2 * ng) 1 c) (b + 12 + 2 * ng) 2 0) (b + 12 + 2 * ng) 3 0) b 6 (nI (ng + 1))) R b np (ng + 1) (cgF sg ng c) := by
  obtain ⟨h1, ⟨h2, h3, h7⟩, h8, h9, h10, h11⟩ := h
  have e : ∀ j, j ≠ 5 → j < 122 + 62 * ng → cgF sg ng c j = sg j := fun j hj h1 => by
    rw [cgF, up_n _ _ hj, cgN, if_neg (by omega)]
  have eM : ∀ a, a ≠ b + 12 + 2 * ng → a ≠ b → (u2 (u2 (u2 (u2 M (b + 12 + 2 * ng) 1 c) (b + 12 + 2 * ng) 2 0) (b + 12 + 2 * ng) 3 0) b 6 (nI (ng + 1))) a = M a := fun a a1 a2 => by rw [u2_n _ _ _ a2, u2_n _ _ _ a1, u2_n _ _ _ a1, u2_n _ _ _ a1]
  have eB : ∀ j, j ≠ 6 → (u2 (u2 (u2 (u2 M (b + 12 + 2 * ng) 1 c) (b + 12 + 2 * ng) 2 0) (b + 12 + 2 * ng) 3 0) b 6 (nI (ng + 1))) b j = M b j := fun j hj => by rw [u2_s, up_n _ _ hj, u2_n _ _ _ (by omega), u2_n _ _ _ (by omega), u2_n _ _ _ (by omega)]
  refine ⟨fun i hi => by rw [eM _ (by omega) (by omega), e _ (by omega) (by omega)]; exact h1 i hi, ⟨by rw [eB _ (by omega), e _ (by omega) (by omega)]; exact h2, by rw [eB _ (by omega), e _ (by omega) (by omega)]; exact h3, by rw [u2_s, up_s, cgF, up_s]⟩, fun i hi => by rw [eM _ (by omega) (by omega), e _ (by omega) (by omega)]; exact h8 i hi, fun i hi => by rw [eM _ (by omega) (by omega), e _ (by omega) (by omega)]; exact h9 i hi, fun k hk j hj => ?_, fun g hg => ?_⟩
  · have := hR.2.2.1 k (by omega)
    rw [eM _ (by omega) (by omega), e _ (by omega) (by omega)]
    exact h10 k hk j hj
  · by_cases hgq : g = ng
    · subst hgq
      have ec : cgF sg g c (122 + 62 * g) = c := by rw [cgF, up_n _ _ (by omega), cgN, if_pos (by omega), if_pos rfl]
      have ek : cgF sg g c (122 + 62 * g + 1) = 0 := by rw [cgF, up_n _ _ (by omega), cgN, if_pos (by omega), if_neg (by omega)]
      refine ⟨?_, ?_, 0, by omega, ?_, fun m hm hm2 ago ha => ?_⟩
      · rw [ec, u2_n _ _ _ (by omega), u2_s, up_n _ _ (by decide), u2_s, up_n _ _ (by decide), u2_s, up_s]
      · rw [ek, u2_n _ _ _ (by omega), u2_s, up_n _ _ (by decide), u2_s, up_s]
      · rw [u2_n _ _ _ (by omega), u2_s, up_s]
        rfl
      · rw [ek] at hm2
        have := (nI_eq (a := 0) (b := m) (by omega) (by omega)).mp hm2
        omega
    · exact (h11 g (by omega)).congr (eM _ (by omega) (by omega)) (eM _ (by omega) (by omega)) fun j h1 h2 => e _ (by omega) (by omega)
set_option maxRecDepth 100000 in
set_option maxHeartbeats 4000000 in
theorem s_X4_placeGauge {γ : Gm} {l : Launch} {M : Mm} {R : Rm} {K : KT} {b np ng : Nat} {sg : Nat → Int32} {c0 : Int32}  (hT : Tb b) (hR : RT R b) (hk : Tk M R b np ng sg) (ho : Ok0 sg np ng) (hE : whyG ng c0 < 0 → K (some (.int (whyG ng c0))) 247 M R) (hK : ¬ whyG ng c0 < 0 → ng < 4 → ∀ c, c < 40 → c0 = nI c → ∀ M1, FrM b M M1 → Tk M1 R b np (ng + 1) (cgF sg ng (nI c)) → K (some (.int (nI ng))) 247 M1 R) : CL γ l mX4_placeGauge 1 247 247 [.ref b, .int c0] M R K := by
  show WP γ l mX4_placeGauge 1 247 247 0 [some (.ref b), some (.int c0)] [] 247 M R K
  have h4 := ho.2.1.2
  refine wp_iload_n dX4_placeGauge_0 rfl ?_
  refine wp_bipush (v := 40) dX4_placeGauge_1 (by decide) ?_
  refine wp_cT2 (z := mX5_isOutside) (n' := 247) kX4_66 dX4_placeGauge_3 (Nat.le_of_ble_eq_true rfl) (Nat.le_of_ble_eq_true rfl) (Nat.le_of_ble_eq_true rfl) (Nat.le_refl _) (Nat.le_refl _) (s_X5_isOutside (wp_af ?_))
  refine wp_bq_eq (tgt := 11) dX4_placeGauge_6 (by decide) (fun h6 => ?_) (fun h6 => ?_)
  · have hin := out_40.mp h6
    obtain ⟨c, hc, e_c⟩ := cell_in hin
    subst e_c
    refine wp_aload_n dX4_placeGauge_11 rfl ?_
    refine wp_getJ (v := nI ng) fX4_57 hT.t0.1 rfl (by have := hT.lt; omega) dX4_placeGauge_12 (hk.cng.trans ho.2.1.1) ?_
    refine wp_iconst (v := 4) dX4_placeGauge_15 (by decide) ?_
    refine wp_icN_lt (a := ng) (b := 4) (tgt := 22) dX4_placeGauge_16 (by decide) rfl rfl (by omega) (by omega) (fun h16 => ?_) (fun h16 => ?_)
    · have hg4 : ng < 4 := h16
      have e3 : whyG ng (nI c) = 0 := by rw [whyG, if_pos hin, if_neg (by omega)]
      refine wp_aload_n dX4_placeGauge_22 rfl ?_
      refine wp_getQ fX4_37 hT.t0.1 rfl hR.f4 (by omega) (by have := hT.lt; omega) dX4_placeGauge_23 ?_
      refine wp_aload_n dX4_placeGauge_26 rfl ?_
      refine wp_getJ (v := nI ng) fX4_57 hT.t0.1 rfl (by have := hT.lt; omega) dX4_placeGauge_27 (hk.cng.trans ho.2.1.1) ?_
      refine wp_aalq (i := ng) rfl (by rw [hT.t5.1]; decide) (by rw [hT.t5.2]; omega) ((hR.2.1 ng hg4).1) (by omega) (by have := hT.lt; omega) dX4_placeGauge_30 ?_
      refine wp_iload_n dX4_placeGauge_31 rfl ?_
      refine wp_cV1 (z := mX0_startIn) (n' := 247) kX4_110 dX4_placeGauge_32 (Nat.le_of_ble_eq_true rfl) (Nat.le_of_ble_eq_true rfl) (hT.tg0 hg4).1 (by have := hT.lt; omega) (Nat.le_of_ble_eq_true rfl) (Nat.le_refl _) (Nat.le_refl _) (s_X0_startIn hT hR hg4 (wp_af0 ?_))
      refine wp_aload_n dX4_placeGauge_35 rfl ?_
      refine wp_dup dX4_placeGauge_36 rfl ?_
      refine wp_getJ (v := nI ng) fX4_57 hT.t0.1 rfl (by have := hT.lt; omega) dX4_placeGauge_37 ((by rw [u2_n _ _ _ (by omega), u2_n _ _ _ (by omega), u2_n _ _ _ (by omega)]; exact hk.cng.trans ho.2.1.1 : _ = nI ng)) ?_
      refine wp_iconst (v := 1) dX4_placeGauge_40 (by decide) ?_
      refine wp_iadd dX4_placeGauge_41 ?_
      refine wp_top (z := nI (ng + 1)) (nI_1 ng) ?_
      refine wp_putI pX4_57 hT.t0.1 rfl ⟨rfl, rfl⟩ (by have := hT.lt; omega) dX4_placeGauge_42 ?_
      refine wp_aload_n dX4_placeGauge_45 rfl ?_
      refine wp_getJ (v := nI (ng + 1)) fX4_57 hT.t0.1 rfl (by have := hT.lt; omega) dX4_placeGauge_46 ((by rw [u2_s, up_s] : _ = nI (ng + 1))) ?_
      refine wp_iconst (v := 1) dX4_placeGauge_49 (by decide) ?_
      refine wp_isub dX4_placeGauge_50 ?_
      refine wp_top (z := nI ng) (nI_m1 ng) ?_
      exact wp_iret dX4_placeGauge_51 rfl rfl rfl (hK (by rw [e3]; decide) hg4 c hc rfl _ (((((FrM.rf b M).u (by omega) (by omega)).u (by omega) (by omega)).u (by omega) (by omega)).u (by omega) (by omega)) (hk.kcg hR ho.1.2 hg4))
    · have e4 : whyG ng (nI c) = -4 := by rw [whyG, if_pos hin, if_pos (by omega)]
      refine wp_bipush (v := (-4)) dX4_placeGauge_19 (by decide) ?_
      exact wp_iret dX4_placeGauge_21 rfl rfl rfl (by
      rw [e4] at hE
      exact hE (by decide))
  · have hout := fun h => (out_40.mpr h) h6
    refine wp_iconst (v := (-1)) dX4_placeGauge_9 (by decide) ?_
    exact wp_iret dX4_placeGauge_10 rfl rfl rfl (by
      have e : whyG ng c0 = -1 := by rw [whyG, if_neg hout]
      rw [e] at hE
      exact hE (by decide))
