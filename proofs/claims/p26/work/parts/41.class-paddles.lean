/-! THE CLASS: paddles placed -/
theorem Tk.same {M : Mm} {R : Rm} {b np ng : Nat} {sg ro : Nat → Int32} (h : Tk M R b np ng sg) (hp : ∀ k, k < np → ∀ j, j < 6 → ro (86 + 6 * k + j) = sg (86 + 6 * k + j)) (hs : ∀ j, j < 86 ∨ 122 ≤ j → ro j = sg j) : Tk M R b np ng ro :=
  h.perm (fun i => i) (fun _ hi => hi) (fun _ _ => rfl) (by rw [hs 4 (by omega)]; exact h.cnp) hp fun j _ hj => hs j hj
/-- a paddle placed where one is: its numbers are new -/
theorem puF_in {sg : Nat → Int32} {np ng k : Nat} {c so he pe f : Int32} (ho : Ok0 sg np ng) (hk : k < np) (hr : rkU sg c np = nI k) : (∀ q, q < np → ∀ j, j < 6 → puF sg np c so he pe f (86 + 6 * q + j) = pf6 sg k c so he pe f (86 + 6 * q + j)) ∧ ∀ j, j < 86 ∨ 122 ≤ j → puF sg np c so he pe f j = pf6 sg k c so he pe f j := by
  have h6 := ho.1.2
  have hc := (rkU_at h6 hr (by omega)).1
  have e : puF sg np c so he pe f = inF (lfF sg np k) (np - 1) c so he pe f := by rw [puF, if_neg (by rw [hr]; exact nI_m6 (by omega)), hr, nI_clamp (by omega)]
  have h1 := ho.klf hk
  have clq : ∀ q, q + 1 < np → lfF sg np k (86 + 6 * q) = sg (86 + 6 * (if q < k then q else q + 1)) := fun q hq => lfF_at (j := 0) (by omega) hq
  have ltc : ∀ i j, i < j → j < np → sg (86 + 6 * i) < sg (86 + 6 * j) := fun i j h1 h2 => by
    have h3 := ho.2.2.2.1 i j h1 h2
    obtain ⟨⟨x, x1, x2⟩, -⟩ := ho.2.2.1 i (by omega)
    obtain ⟨⟨z, z1, z2⟩, -⟩ := ho.2.2.1 j h2
    rw [cel, cel, x2, z2, nI_clamp (by omega), nI_clamp (by omega)] at h3
    rw [x2, z2]
    exact nI_lt h3 (by omega)
  have em : psn (lfF sg np k) c (np - 1) = k := by
    have b1 := psn_le (lfF sg np k) c (np - 1)
    by_cases g1 : psn (lfF sg np k) c (np - 1) < k
    · exfalso
      have := psn_up (lfF sg np k) c (np - 1) _ (Nat.le_refl _) (by omega)
      rw [clq _ (by omega), if_pos g1] at this
      have h2 := ltc _ _ g1 hk
      rw [hc] at h2
      exact Int32.lt_asymm this h2
    · by_cases g2 : k < psn (lfF sg np k) c (np - 1)
      · exfalso
        have := psn_dn (lfF sg np k) c (np - 1) (by omega)
        rw [clq _ (by omega), if_neg (by omega), show psn (lfF sg np k) c (np - 1) - 1 + 1 = psn (lfF sg np k) c (np - 1) by omega] at this
        have h2 := ltc k (psn (lfF sg np k) c (np - 1)) g2 (by omega)
        rw [hc] at h2
        exact this h2
      · omega
  refine ⟨fun q hq j hj => ?_, fun j hj => ?_⟩
  · rw [e, inF_at hj (by omega), em]
    by_cases g : q = k
    · rw [if_pos g, g, pf6_in hj]
    · rw [if_neg g, pf6_no (by omega), lfF_at hj (by split <;> omega)]
      by_cases g1 : q < k
      · rw [if_pos g1, if_pos g1]
      · rw [if_neg g1, if_neg (by omega), show q - 1 + 1 = q by omega]
  · by_cases g : j = 4
    · rw [e, g, inF_4, pf6_no (by omega), ho.1.1, show np - 1 + 1 = np by omega]
    · rw [e, inF_no g hj (by omega), lfF_no g hj h6, pf6_no (by omega)]
theorem Tk.pf6 {M : Mm} {R : Rm} {b np ng k : Nat} {sg : Nat → Int32} (h : Tk M R b np ng sg) (hR : RT R b) (h6 : np ≤ 6) (hk : k < np) (c so he pe f : Int32) : Tk (u2 (u2 (u2 (u2 (u2 (u2 M (R (b + 4) k) 0 c) (R (b + 4) k) 1 so) (R (b + 4) k) 2 he) (R (b + 4) k) 3 pe) (R (b + 4) k) 4 f) (R (b + 4) k) 5 1) R b np ng (pf6 sg k c so he pe f) :=
  (((((h.upad hR h6 hk (by decide) c).upad hR h6 hk (by decide) so).upad hR h6 hk (by decide) he).upad hR h6 hk (by decide) pe).upad hR h6 hk (by decide) f).upad hR h6 hk (by decide) 1
theorem u6_in {M : Mm} {a j : Nat} {c so he pe f : Int32} (hj : j < 6) : (u2 (u2 (u2 (u2 (u2 (u2 M a 0 c) a 1 so) a 2 he) a 3 pe) a 4 f) a 5 1) a j = nwP c so he pe f j := by
  simp only [u2_s]
  rcases (by omega : j = 0 ∨ j = 1 ∨ j = 2 ∨ j = 3 ∨ j = 4 ∨ j = 5) with h | h | h | h | h | h <;> subst h <;> simp [up, nwP]
theorem u6_no {M : Mm} {a q : Nat} {c so he pe f : Int32} (hq : q ≠ a) : (u2 (u2 (u2 (u2 (u2 (u2 M a 0 c) a 1 so) a 2 he) a 3 pe) a 4 f) a 5 1) q = M q := by
  rw [u2_n _ _ _ hq, u2_n _ _ _ hq, u2_n _ _ _ hq, u2_n _ _ _ hq, u2_n _ _ _ hq, u2_n _ _ _ hq]
theorem opS_rt {R R1 : Rm} {b n m : Nat} (h : RT R b) (hm : m ≤ n) (hn : n < 6) (h1 : ∀ i, R1 (b + 4) i = R (b + 4) (opS n m i)) (h2 : FrR b R R1) : RT R1 b :=
  h.perm (opS n m) (fun i hi => by unfold opS; split <;> (try split) <;> (try split) <;> omega) (fun i j hi hj e => by unfold opS at e; split at e <;> (try split at e) <;> (try split at e) <;> (try split at e) <;> (try split at e) <;> (try split at e) <;> omega) (fun i _ => h1 i) h2
theorem Tk.kin {M : Mm} {R R1 : Rm} {b np ng : Nat} {sg : Nat → Int32} {c so he pe f : Int32} (h : Tk M R b np ng sg) (hR : RT R b) (h5 : np < 6) (h1 : ∀ i, R1 (b + 4) i = R (b + 4) (opS np (psn sg c np) i)) (h2 : FrR b R R1) : Tk (u2 (u2 (u2 (u2 (u2 (u2 (u2 M b 5 (nI (np + 1))) (R1 (b + 4) (psn sg c np)) 0 c) (R1 (b + 4) (psn sg c np)) 1 so) (R1 (b + 4) (psn sg c np)) 2 he) (R1 (b + 4) (psn sg c np)) 3 pe) (R1 (b + 4) (psn sg c np)) 4 f) (R1 (b + 4) (psn sg c np)) 5 1) R1 b (np + 1) ng (inF sg np c so he pe f) := by
  have hm := psn_le sg c np
  have hR1 := opS_rt hR hm h5 h1 h2
  obtain ⟨pd, hpd⟩ : ∃ pd, pd = R1 (b + 4) (psn sg c np) := ⟨_, rfl⟩
  have hp := hR1.2.2.1 (psn sg c np) (by omega)
  rw [← hpd] at hp ⊢
  obtain ⟨a1, ⟨a2, a3, a7⟩, a8, a9, a10, a11⟩ := h
  have no : ∀ j, j ≠ 4 → j < 86 ∨ 122 ≤ j → inF sg np c so he pe f j = sg j := fun j h1 h2 => inF_no h1 h2 (by omega)
  have eM : ∀ q, q ≠ pd → q ≠ b → (u2 (u2 (u2 (u2 (u2 (u2 (u2 M b 5 (nI (np + 1))) pd 0 c) pd 1 so) pd 2 he) pd 3 pe) pd 4 f) pd 5 1) q = M q := fun q q1 q2 => by rw [u6_no q1, u2_n _ _ _ q2]
  have eB : (u2 (u2 (u2 (u2 (u2 (u2 (u2 M b 5 (nI (np + 1))) pd 0 c) pd 1 so) pd 2 he) pd 3 pe) pd 4 f) pd 5 1) b = up (M b) 5 (nI (np + 1)) := by rw [u6_no (by omega), u2_s]
  refine ⟨fun i hi => by rw [eM _ (by omega) (by omega), no _ (by omega) (by omega)]; exact a1 i hi, ⟨by rw [eB, up_n _ _ (by decide), no _ (by omega) (by omega)]; exact a2, by rw [eB, up_s, inF_4], by rw [eB, up_n _ _ (by decide), no _ (by omega) (by omega)]; exact a7⟩, fun i hi => by rw [eM _ (by omega) (by omega), no _ (by omega) (by omega)]; exact a8 i hi, fun i hi => by rw [eM _ (by omega) (by omega), no _ (by omega) (by omega)]; exact a9 i hi, fun q hq j hj => ?_, fun g hg => (a11 g hg).congr (eM _ (by omega) (by omega)) (eM _ (by omega) (by omega)) fun j _ _ => no j (by omega) (by omega)⟩
  rw [inF_at hj (by omega)]
  by_cases g : q = psn sg c np
  · rw [if_pos g, g, ← hpd, u6_in hj]
  · have g2 := hR1.2.2.1 q (by omega)
    have g3 : R1 (b + 4) q ≠ pd := fun e => g (hR1.2.2.2 q _ (by omega) (by omega) (e.trans hpd))
    rw [if_neg g, eM _ g3 (by omega), h1 q, opS]
    by_cases g1 : q < psn sg c np
    · rw [if_pos g1, if_pos g1]
      exact a10 q (by omega) j hj
    · rw [if_neg g1, if_neg g, if_pos (by omega), if_neg g1]
      exact a10 (q - 1) (by omega) j hj
set_option maxRecDepth 100000 in
set_option maxHeartbeats 4000000 in
theorem s_X4_placePaddle {γ : Gm} {l : Launch} {M : Mm} {R : Rm} {K : KT} {b np ng : Nat} {sg : Nat → Int32} {c so he pe f : Int32}  (hT : Tb b) (hR : RT R b) (hk : Tk M R b np ng sg) (ho : Ok0 sg np ng) (hE : whyP sg np c so he pe f < 0 → K (some (.int (whyP sg np c so he pe f))) 247 M R) (hK : ¬ whyP sg np c so he pe f < 0 → ∀ M1 R1, FrM b M M1 → FrR b R R1 → RT R1 b → Tk M1 R1 b (if rkU sg c np = -6 then np + 1 else np) ng (puF sg np c so he pe f) → K (some (.int (puF sg np c so he pe f 4))) 247 M1 R1) : CL γ l mX4_placePaddle 2 247 247 [.ref b, .int c, .int so, .int he, .int pe, .int f] M R K := by
  show WP γ l mX4_placePaddle 2 247 247 0 [some (.ref b), some (.int c), some (.int so), some (.int he), some (.int pe), some (.int f), none, none] [] 247 M R K
  have h6 := ho.1.2
  refine wp_iload_n dX4_placePaddle_0 rfl ?_
  refine wp_bipush (v := 36) dX4_placePaddle_1 (by decide) ?_
  refine wp_cT2 (z := mX5_isOutside) (n' := 247) kX4_66 dX4_placePaddle_3 (Nat.le_of_ble_eq_true rfl) (Nat.le_of_ble_eq_true rfl) (Nat.le_of_ble_eq_true rfl) (Nat.le_refl _) (Nat.le_refl _) (s_X5_isOutside (wp_af ?_))
  refine wp_bq_eq (tgt := 11) dX4_placePaddle_6 (by decide) (fun h6b => ?_) (fun h6b => ?_)
  · have hin := out_36.mp h6b
    refine wp_iload_n dX4_placePaddle_11 rfl ?_
    refine wp_iload_n dX4_placePaddle_12 rfl ?_
    refine wp_iload dX4_placePaddle_13 rfl ?_
    refine wp_iload dX4_placePaddle_15 rfl ?_
    refine wp_cS4 (z := mX3_isRecipe) (n' := 247) kX4_76 dX4_placePaddle_17 (Nat.le_of_ble_eq_true rfl) (Nat.le_of_ble_eq_true rfl) (Nat.le_of_ble_eq_true rfl) (Nat.le_refl _) (Nat.le_refl _) (s_X3_isRecipe (wp_af ?_))
    refine wp_bq_ne (tgt := 26) dX4_placePaddle_20 (by decide) (fun h20 => ?_) (fun h20 => ?_)
    · refine wp_aload_n dX4_placePaddle_26 rfl ?_
      refine wp_iload_n dX4_placePaddle_27 rfl ?_
      refine wp_cV1 (z := mX4_rankIn) (n' := 247) kX4_80 dX4_placePaddle_28 (Nat.le_of_ble_eq_true rfl) (Nat.le_of_ble_eq_true rfl) hT.t0.1 (by have := hT.lt; omega) (Nat.le_of_ble_eq_true rfl) (Nat.le_refl _) (Nat.le_refl _) (s_X4_rankIn hT hR hk ho (wp_af ?_))
      refine wp_istore (L' := [some (.ref b), some (.int c), some (.int so), some (.int he), some (.int pe), some (.int f), some (.int _), none]) dX4_placePaddle_31 (by decide) rfl ?_
      refine wp_iload dX4_placePaddle_33 rfl ?_
      refine wp_if_ge (tgt := 45) dX4_placePaddle_35 (by decide) (fun h35 => ?_) (fun h35 => ?_)
      · obtain ⟨k, hkn, e1, e2⟩ := rkC_in h35
        have ew : ¬ whyP sg np c so he pe f < 0 := by rw [whyP, if_pos hin, if_pos h20, if_neg (fun h => nI_m6 (e := k) (by omega) (e1.symm.trans h.1))]; decide
        obtain ⟨pd, hpd⟩ : ∃ pd, pd = R (b + 4) k := ⟨_, rfl⟩
        have hp : b + 6 ≤ pd ∧ pd < b + 12 := by rw [hpd]; exact hR.2.2.1 k (by omega)
        have q1 := puF_in (c := c) (so := so) (he := he) (pe := pe) (f := f) ho hkn e1
        have q2 := (hk.pf6 hR h6 hkn c so he pe f).same q1.1 q1.2
        rw [← hpd] at q2
        refine wp_loc (L' := [some (.ref b), some (.int c), some (.int so), some (.int he), some (.int pe), some (.int f), some (.int (nI k)), none]) (by rw [e2]) ?_
        refine wp_iload dX4_placePaddle_45 rfl ?_
        refine wp_ifN_ge (a := k) (tgt := 53) dX4_placePaddle_47 (by decide) rfl (by omega) ?_
        refine wp_aload_n dX4_placePaddle_53 rfl ?_
        refine wp_getQ fX4_31 hT.t0.1 rfl hR.f3 (by omega) (by have := hT.lt; omega) dX4_placePaddle_54 ?_
        refine wp_iload dX4_placePaddle_57 rfl ?_
        refine wp_aalq (i := k) rfl (by rw [hT.t4.1]; decide) (by rw [hT.t4.2]; omega) (hpd.symm) (by omega) (by have := hT.lt; omega) dX4_placePaddle_59 ?_
        refine wp_astore (L' := [some (.ref b), some (.int c), some (.int so), some (.int he), some (.int pe), some (.int f), some (.int (nI k)), some (.ref pd)]) dX4_placePaddle_60 (by decide) rfl ?_
        refine wp_aload dX4_placePaddle_62 rfl ?_
        refine wp_iload_n dX4_placePaddle_64 rfl ?_
        refine wp_putI pX4_87 (hT.tp hp.1 hp.2).1 rfl ⟨rfl, rfl⟩ (by have := hT.lt; omega) dX4_placePaddle_65 ?_
        refine wp_aload dX4_placePaddle_68 rfl ?_
        refine wp_iload_n dX4_placePaddle_70 rfl ?_
        refine wp_putI pX4_90 (hT.tp hp.1 hp.2).1 rfl ⟨rfl, rfl⟩ (by have := hT.lt; omega) dX4_placePaddle_71 ?_
        refine wp_aload dX4_placePaddle_74 rfl ?_
        refine wp_iload_n dX4_placePaddle_76 rfl ?_
        refine wp_putI pX4_93 (hT.tp hp.1 hp.2).1 rfl ⟨rfl, rfl⟩ (by have := hT.lt; omega) dX4_placePaddle_77 ?_
        refine wp_aload dX4_placePaddle_80 rfl ?_
        refine wp_iload dX4_placePaddle_82 rfl ?_
        refine wp_putI pX4_96 (hT.tp hp.1 hp.2).1 rfl ⟨rfl, rfl⟩ (by have := hT.lt; omega) dX4_placePaddle_84 ?_
        refine wp_aload dX4_placePaddle_87 rfl ?_
        refine wp_iload dX4_placePaddle_89 rfl ?_
        refine wp_putI pX4_99 (hT.tp hp.1 hp.2).1 rfl ⟨rfl, rfl⟩ (by have := hT.lt; omega) dX4_placePaddle_91 ?_
        refine wp_aload dX4_placePaddle_94 rfl ?_
        refine wp_iconst (v := 1) dX4_placePaddle_96 (by decide) ?_
        refine wp_putI pX4_102 (hT.tp hp.1 hp.2).1 rfl ⟨rfl, rfl⟩ (by have := hT.lt; omega) dX4_placePaddle_97 ?_
        refine wp_aload_n dX4_placePaddle_100 rfl ?_
        refine wp_getJ fX4_49 hT.t0.1 rfl (by have := hT.lt; omega) dX4_placePaddle_101 (q2.cnp) ?_
        exact wp_iret dX4_placePaddle_104 rfl rfl rfl (hK ew _ R (((((((FrM.rf b M).u (by omega) (by omega)).u (by omega) (by omega)).u (by omega) (by omega)).u (by omega) (by omega)).u (by omega) (by omega)).u (by omega) (by omega)) (fun _ _ => rfl) hR (by rw [if_neg (by rw [e1]; exact nI_m6 (by omega))]; exact q2))
      · have eno := rkC_no h6 h35
        by_cases h66 : np = 6
        · have e4 : whyP sg np c so he pe f = -4 := by rw [whyP, if_pos hin, if_pos h20, if_pos ⟨eno, h66⟩]
          rw [e4] at hE
          refine wp_aload_n dX4_placePaddle_38 rfl ?_
          refine wp_iload_n dX4_placePaddle_39 rfl ?_
          refine wp_cV1 (z := mX4_openRank) (n' := 247) kX4_84 dX4_placePaddle_40 (Nat.le_of_ble_eq_true rfl) (Nat.le_of_ble_eq_true rfl) hT.t0.1 (by have := hT.lt; omega) (Nat.le_of_ble_eq_true rfl) (Nat.le_refl _) (Nat.le_refl _) (s_X4_openRank hT hR hk ho (fun _ => (wp_af ?_)) (fun h => absurd h (by omega)))
          refine wp_istore (L' := [some (.ref b), some (.int c), some (.int so), some (.int he), some (.int pe), some (.int f), some (.int (-4)), none]) dX4_placePaddle_43 (by decide) rfl ?_
          refine wp_iload dX4_placePaddle_45 rfl ?_
          refine wp_if_ge (tgt := 53) dX4_placePaddle_47 (by decide) (fun h47 => absurd h47 (by decide)) (fun h47 => ?_)
          refine wp_bipush (v := (-4)) dX4_placePaddle_50 (by decide) ?_
          exact wp_iret dX4_placePaddle_52 rfl rfl rfl (hE (by decide))
        · have ew : ¬ whyP sg np c so he pe f < 0 := by rw [whyP, if_pos hin, if_pos h20, if_neg (fun h => h66 h.2)]; decide
          obtain ⟨m, hm⟩ : ∃ m, m = psn sg c np := ⟨_, rfl⟩
          have hmn := psn_le sg c np
          refine wp_aload_n dX4_placePaddle_38 rfl ?_
          refine wp_iload_n dX4_placePaddle_39 rfl ?_
          refine wp_cV1 (z := mX4_openRank) (n' := 247) kX4_84 dX4_placePaddle_40 (Nat.le_of_ble_eq_true rfl) (Nat.le_of_ble_eq_true rfl) hT.t0.1 (by have := hT.lt; omega) (Nat.le_of_ble_eq_true rfl) (Nat.le_refl _) (Nat.le_refl _) (s_X4_openRank hT hR hk ho (fun h => absurd h h66) (fun h5 R1 g1 g2 => (wp_af ?_)))
          rw [← hm]
          refine wp_istore (L' := [some (.ref b), some (.int c), some (.int so), some (.int he), some (.int pe), some (.int f), some (.int (nI m)), none]) dX4_placePaddle_43 (by decide) rfl ?_
          have hR1 := opS_rt hR hmn h5 g2 g1
          have h3 : R1 b 3 = b + 4 := hR1.f3
          have q2 := hk.kin (c := c) (so := so) (he := he) (pe := pe) (f := f) hR h5 g2 g1
          rw [← hm] at q2
          have e5 : puF sg np c so he pe f = inF sg np c so he pe f := by rw [puF, if_pos eno]
          rw [← e5] at q2
          obtain ⟨pd, hpd⟩ : ∃ pd, pd = R1 (b + 4) m := ⟨_, rfl⟩
          have hp : b + 6 ≤ pd ∧ pd < b + 12 := by rw [hpd]; exact hR1.2.2.1 m (by omega)
          rw [← hpd] at q2
          refine wp_iload dX4_placePaddle_45 rfl ?_
          refine wp_ifN_ge (a := m) (tgt := 53) dX4_placePaddle_47 (by decide) rfl (by omega) ?_
          refine wp_aload_n dX4_placePaddle_53 rfl ?_
          refine wp_getQ fX4_31 hT.t0.1 rfl h3 (by omega) (by have := hT.lt; omega) dX4_placePaddle_54 ?_
          refine wp_iload dX4_placePaddle_57 rfl ?_
          refine wp_aalq (i := m) rfl (by rw [hT.t4.1]; decide) (by rw [hT.t4.2]; omega) (hpd.symm) (by omega) (by have := hT.lt; omega) dX4_placePaddle_59 ?_
          refine wp_astore (L' := [some (.ref b), some (.int c), some (.int so), some (.int he), some (.int pe), some (.int f), some (.int (nI m)), some (.ref pd)]) dX4_placePaddle_60 (by decide) rfl ?_
          refine wp_aload dX4_placePaddle_62 rfl ?_
          refine wp_iload_n dX4_placePaddle_64 rfl ?_
          refine wp_putI pX4_87 (hT.tp hp.1 hp.2).1 rfl ⟨rfl, rfl⟩ (by have := hT.lt; omega) dX4_placePaddle_65 ?_
          refine wp_aload dX4_placePaddle_68 rfl ?_
          refine wp_iload_n dX4_placePaddle_70 rfl ?_
          refine wp_putI pX4_90 (hT.tp hp.1 hp.2).1 rfl ⟨rfl, rfl⟩ (by have := hT.lt; omega) dX4_placePaddle_71 ?_
          refine wp_aload dX4_placePaddle_74 rfl ?_
          refine wp_iload_n dX4_placePaddle_76 rfl ?_
          refine wp_putI pX4_93 (hT.tp hp.1 hp.2).1 rfl ⟨rfl, rfl⟩ (by have := hT.lt; omega) dX4_placePaddle_77 ?_
          refine wp_aload dX4_placePaddle_80 rfl ?_
          refine wp_iload dX4_placePaddle_82 rfl ?_
          refine wp_putI pX4_96 (hT.tp hp.1 hp.2).1 rfl ⟨rfl, rfl⟩ (by have := hT.lt; omega) dX4_placePaddle_84 ?_
          refine wp_aload dX4_placePaddle_87 rfl ?_
          refine wp_iload dX4_placePaddle_89 rfl ?_
          refine wp_putI pX4_99 (hT.tp hp.1 hp.2).1 rfl ⟨rfl, rfl⟩ (by have := hT.lt; omega) dX4_placePaddle_91 ?_
          refine wp_aload dX4_placePaddle_94 rfl ?_
          refine wp_iconst (v := 1) dX4_placePaddle_96 (by decide) ?_
          refine wp_putI pX4_102 (hT.tp hp.1 hp.2).1 rfl ⟨rfl, rfl⟩ (by have := hT.lt; omega) dX4_placePaddle_97 ?_
          refine wp_aload_n dX4_placePaddle_100 rfl ?_
          refine wp_getJ fX4_49 hT.t0.1 rfl (by have := hT.lt; omega) dX4_placePaddle_101 (q2.cnp) ?_
          exact wp_iret dX4_placePaddle_104 rfl rfl rfl (hK ew _ R1 ((((((((FrM.rf b M).u (by omega) (by omega)).u (by omega) (by omega)).u (by omega) (by omega)).u (by omega) (by omega)).u (by omega) (by omega)).u (by omega) (by omega)).u (by omega) (by omega)) g1 hR1 (by rw [if_pos eno]; exact q2))
    · refine wp_bipush (v := (-2)) dX4_placePaddle_23 (by decide) ?_
      exact wp_iret dX4_placePaddle_25 rfl rfl rfl (by
      have e : whyP sg np c so he pe f = -2 := by rw [whyP, if_pos hin, if_neg h20]
      rw [e] at hE
      exact hE (by decide))
  · have hout := fun h => (out_36.mpr h) h6b
    refine wp_iconst (v := (-1)) dX4_placePaddle_9 (by decide) ?_
    exact wp_iret dX4_placePaddle_10 rfl rfl rfl (by
      have e : whyP sg np c so he pe f = -1 := by rw [whyP, if_neg hout]
      rw [e] at hE
      exact hE (by decide))
