/-! THE CLASS: reads of a tank -/
set_option maxRecDepth 100000 in
set_option maxHeartbeats 4000000 in
theorem s_X4_sumOfLevels {γ : Gm} {l : Launch} {M : Mm} {R : Rm} {K : KT} {b np ng : Nat} {sg : Nat → Int32}  (hT : Tb b) (hR : RT R b) (hk : Tk M R b np ng sg) (hK : K (some (.int (sumN sg 40))) 247 M R) : CL γ l mX4_sumOfLevels 0 247 247 [.ref b] M R K := by
  show WP γ l mX4_sumOfLevels 0 247 247 0 [some (.ref b), none, none] [] 247 M R K
  have loop : ∀ (q c : Nat) (v : Int32), q + c = 40 → v = sumN sg c → WP γ l mX4_sumOfLevels 0 247 247 4 [some (.ref b), some (.int v), some (.int (nI c))] [] 247 M R K := by
    intro q
    induction q with
    | zero =>
      intro c v hq hv
      refine wp_iload_n dX4_sumOfLevels_4 rfl ?_
      refine wp_bipush (v := 40) dX4_sumOfLevels_5 (by decide) ?_
      refine wp_icN_ge (a := c) (b := 40) (tgt := 25) dX4_sumOfLevels_7 (by decide) rfl rfl (by omega) (by omega) (fun h7 => ?_) (fun h7 => absurd h7 (by omega))
      refine wp_iload_n dX4_sumOfLevels_25 rfl ?_
      exact wp_iret dX4_sumOfLevels_26 rfl rfl rfl (by rw [hv, show c = 40 by omega]; exact hK)
    | succ q ih =>
      intro c v hq hv
      refine wp_iload_n dX4_sumOfLevels_4 rfl ?_
      refine wp_bipush (v := 40) dX4_sumOfLevels_5 (by decide) ?_
      refine wp_icN_ge (a := c) (b := 40) (tgt := 25) dX4_sumOfLevels_7 (by decide) rfl rfl (by omega) (by omega) (fun h7 => absurd h7 (by omega)) (fun h7 => ?_)
      refine wp_iload_n dX4_sumOfLevels_10 rfl ?_
      refine wp_aload_n dX4_sumOfLevels_11 rfl ?_
      refine wp_getQ fX4_23 hT.t0.1 rfl hR.f1 (by omega) (by have := hT.lt; omega) dX4_sumOfLevels_12 ?_
      refine wp_iload_n dX4_sumOfLevels_15 rfl ?_
      refine wp_iadn (i := c) rfl hT.t2.1 (by have := hT.lt; omega) (by rw [hT.t2.2]; omega) (by have := hT.lt; omega) dX4_sumOfLevels_16 (hk.clev (by omega)) ?_
      refine wp_iadd dX4_sumOfLevels_17 ?_
      refine wp_istore_n (L' := [some (.ref b), some (.int _), some (.int (nI c))]) dX4_sumOfLevels_18 (by decide) rfl ?_
      refine wp_iinc (v := nI (c + 1)) (L' := [some (.ref b), some (.int _), some (.int (nI (c + 1)))]) dX4_sumOfLevels_19 (by decide) rfl (inc_1 _) rfl ?_
      refine wp_goto (tgt := 4) dX4_sumOfLevels_22 (by decide) ?_
      exact ih (c + 1) _ (by omega) (by rw [hv]; rfl)
  refine wp_iconst (v := 0) dX4_sumOfLevels_0 (by decide) ?_
  refine wp_istore_n (L' := [some (.ref b), some (.int _), none]) dX4_sumOfLevels_1 (by decide) rfl ?_
  refine wp_iconst (v := 0) dX4_sumOfLevels_2 (by decide) ?_
  refine wp_istore_n (L' := [some (.ref b), some (.int _), some (.int _)]) dX4_sumOfLevels_3 (by decide) rfl ?_
  exact loop 40 0 0 rfl rfl

set_option maxRecDepth 100000 in
set_option maxHeartbeats 4000000 in
theorem s_X4_motion {γ : Gm} {l : Launch} {M : Mm} {R : Rm} {K : KT} {b np ng : Nat} {sg : Nat → Int32}  (hT : Tb b) (hR : RT R b) (hk : Tk M R b np ng sg) (hK : K (some (.int (swN sg 40))) 247 M R) : CL γ l mX4_motion 1 247 247 [.ref b] M R K := by
  show WP γ l mX4_motion 1 247 247 0 [some (.ref b), none, none] [] 247 M R K
  have loop : ∀ (q c : Nat) (v : Int32), q + c = 40 → v = swN sg c → WP γ l mX4_motion 1 247 247 4 [some (.ref b), some (.int v), some (.int (nI c))] [] 247 M R K := by
    intro q
    induction q with
    | zero =>
      intro c v hq hv
      refine wp_iload_n dX4_motion_4 rfl ?_
      refine wp_bipush (v := 40) dX4_motion_5 (by decide) ?_
      refine wp_icN_ge (a := c) (b := 40) (tgt := 38) dX4_motion_7 (by decide) rfl rfl (by omega) (by omega) (fun h7 => ?_) (fun h7 => absurd h7 (by omega))
      refine wp_iload_n dX4_motion_38 rfl ?_
      exact wp_iret dX4_motion_39 rfl rfl rfl (by rw [hv, show c = 40 by omega]; exact hK)
    | succ q ih =>
      intro c v hq hv
      refine wp_iload_n dX4_motion_4 rfl ?_
      refine wp_bipush (v := 40) dX4_motion_5 (by decide) ?_
      refine wp_icN_ge (a := c) (b := 40) (tgt := 38) dX4_motion_7 (by decide) rfl rfl (by omega) (by omega) (fun h7 => absurd h7 (by omega)) (fun h7 => ?_)
      refine wp_iload_n dX4_motion_10 rfl ?_
      refine wp_aload_n dX4_motion_11 rfl ?_
      refine wp_getQ fX4_23 hT.t0.1 rfl hR.f1 (by omega) (by have := hT.lt; omega) dX4_motion_12 ?_
      refine wp_iload_n dX4_motion_15 rfl ?_
      refine wp_iadn (i := c) rfl hT.t2.1 (by have := hT.lt; omega) (by rw [hT.t2.2]; omega) (by have := hT.lt; omega) dX4_motion_16 (hk.clev (by omega)) ?_
      refine wp_cS1 (z := mJ9_abs_0f7a4) (n' := 247) kX4_132 dX4_motion_17 (Nat.le_of_ble_eq_true rfl) (Nat.le_of_ble_eq_true rfl) (Nat.le_of_ble_eq_true rfl) (Nat.le_refl _) (Nat.le_refl _) (s_J9_abs_0f7a4 (wp_af ?_))
      refine wp_aload_n dX4_motion_20 rfl ?_
      refine wp_getQ fX4_26 hT.t0.1 rfl hR.f2 (by omega) (by have := hT.lt; omega) dX4_motion_21 ?_
      refine wp_iload_n dX4_motion_24 rfl ?_
      refine wp_iadn (i := c) rfl hT.t3.1 (by have := hT.lt; omega) (by rw [hT.t3.2]; omega) (by have := hT.lt; omega) dX4_motion_25 (hk.cspd (by omega)) ?_
      refine wp_cS1 (z := mJ9_abs_0f7a4) (n' := 247) kX4_132 dX4_motion_26 (Nat.le_of_ble_eq_true rfl) (Nat.le_of_ble_eq_true rfl) (Nat.le_of_ble_eq_true rfl) (Nat.le_refl _) (Nat.le_refl _) (s_J9_abs_0f7a4 (wp_af ?_))
      refine wp_iadd dX4_motion_29 ?_
      refine wp_iadd dX4_motion_30 ?_
      refine wp_istore_n (L' := [some (.ref b), some (.int _), some (.int (nI c))]) dX4_motion_31 (by decide) rfl ?_
      refine wp_iinc (v := nI (c + 1)) (L' := [some (.ref b), some (.int _), some (.int (nI (c + 1)))]) dX4_motion_32 (by decide) rfl (inc_1 _) rfl ?_
      refine wp_goto (tgt := 4) dX4_motion_35 (by decide) ?_
      exact ih (c + 1) _ (by omega) (by rw [hv]; rfl)
  refine wp_iconst (v := 0) dX4_motion_0 (by decide) ?_
  refine wp_istore_n (L' := [some (.ref b), some (.int _), none]) dX4_motion_1 (by decide) rfl ?_
  refine wp_iconst (v := 0) dX4_motion_2 (by decide) ?_
  refine wp_istore_n (L' := [some (.ref b), some (.int _), some (.int _)]) dX4_motion_3 (by decide) rfl ?_
  exact loop 40 0 0 rfl rfl

set_option maxRecDepth 100000 in
set_option maxHeartbeats 4000000 in
theorem s_X4_farthestLevel {γ : Gm} {l : Launch} {M : Mm} {R : Rm} {K : KT} {b np ng : Nat} {sg : Nat → Int32}  (hT : Tb b) (hR : RT R b) (hk : Tk M R b np ng sg) (hK : K (some (.int (grN sg 40))) 247 M R) : CL γ l mX4_farthestLevel 1 247 247 [.ref b] M R K := by
  show WP γ l mX4_farthestLevel 1 247 247 0 [some (.ref b), none, none] [] 247 M R K
  have loop : ∀ (q c : Nat) (v : Int32), q + c = 40 → v = grN sg c → WP γ l mX4_farthestLevel 1 247 247 4 [some (.ref b), some (.int v), some (.int (nI c))] [] 247 M R K := by
    intro q
    induction q with
    | zero =>
      intro c v hq hv
      refine wp_iload_n dX4_farthestLevel_4 rfl ?_
      refine wp_bipush (v := 40) dX4_farthestLevel_5 (by decide) ?_
      refine wp_icN_ge (a := c) (b := 40) (tgt := 30) dX4_farthestLevel_7 (by decide) rfl rfl (by omega) (by omega) (fun h7 => ?_) (fun h7 => absurd h7 (by omega))
      refine wp_iload_n dX4_farthestLevel_30 rfl ?_
      exact wp_iret dX4_farthestLevel_31 rfl rfl rfl (by rw [hv, show c = 40 by omega]; exact hK)
    | succ q ih =>
      intro c v hq hv
      refine wp_iload_n dX4_farthestLevel_4 rfl ?_
      refine wp_bipush (v := 40) dX4_farthestLevel_5 (by decide) ?_
      refine wp_icN_ge (a := c) (b := 40) (tgt := 30) dX4_farthestLevel_7 (by decide) rfl rfl (by omega) (by omega) (fun h7 => absurd h7 (by omega)) (fun h7 => ?_)
      refine wp_iload_n dX4_farthestLevel_10 rfl ?_
      refine wp_aload_n dX4_farthestLevel_11 rfl ?_
      refine wp_getQ fX4_23 hT.t0.1 rfl hR.f1 (by omega) (by have := hT.lt; omega) dX4_farthestLevel_12 ?_
      refine wp_iload_n dX4_farthestLevel_15 rfl ?_
      refine wp_iadn (i := c) rfl hT.t2.1 (by have := hT.lt; omega) (by rw [hT.t2.2]; omega) (by have := hT.lt; omega) dX4_farthestLevel_16 (hk.clev (by omega)) ?_
      refine wp_cS1 (z := mJ9_abs_0f7a4) (n' := 247) kX4_132 dX4_farthestLevel_17 (Nat.le_of_ble_eq_true rfl) (Nat.le_of_ble_eq_true rfl) (Nat.le_of_ble_eq_true rfl) (Nat.le_refl _) (Nat.le_refl _) (s_J9_abs_0f7a4 (wp_af ?_))
      refine wp_cS2 (z := mJ9_max_7cf53) (n' := 247) kX4_153 dX4_farthestLevel_20 (Nat.le_of_ble_eq_true rfl) (Nat.le_of_ble_eq_true rfl) (Nat.le_of_ble_eq_true rfl) (Nat.le_refl _) (Nat.le_refl _) (s_J9_max_7cf53 (wp_af ?_))
      refine wp_istore_n (L' := [some (.ref b), some (.int _), some (.int (nI c))]) dX4_farthestLevel_23 (by decide) rfl ?_
      refine wp_iinc (v := nI (c + 1)) (L' := [some (.ref b), some (.int _), some (.int (nI (c + 1)))]) dX4_farthestLevel_24 (by decide) rfl (inc_1 _) rfl ?_
      refine wp_goto (tgt := 4) dX4_farthestLevel_27 (by decide) ?_
      exact ih (c + 1) _ (by omega) (by rw [hv]; rfl)
  refine wp_iconst (v := 0) dX4_farthestLevel_0 (by decide) ?_
  refine wp_istore_n (L' := [some (.ref b), some (.int _), none]) dX4_farthestLevel_1 (by decide) rfl ?_
  refine wp_iconst (v := 0) dX4_farthestLevel_2 (by decide) ?_
  refine wp_istore_n (L' := [some (.ref b), some (.int _), some (.int _)]) dX4_farthestLevel_3 (by decide) rfl ?_
  exact loop 40 0 0 rfl rfl
