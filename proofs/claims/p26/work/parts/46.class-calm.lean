/-! THE CLASS: calm -/
theorem sz_int {v : Int32} (h : bd v) : (szI v).toInt = (if v.toInt < 0 then -v.toInt else v.toInt) := by
  have hb := bd_int.mp h
  have e0 : (0 : Int32).toInt = 0 := by decide
  unfold szI
  by_cases g : v < 0
  · have g2 := Int32.lt_iff_toInt_lt.mp g
    rw [e0] at g2
    rw [if_pos g, if_pos g2, Int32.toInt_neg]
    exact i32_bm (by omega) (by omega)
  · have g2 : ¬ v.toInt < 0 := fun q => g (Int32.lt_iff_toInt_lt.mpr (by rw [e0]; exact q))
    rw [if_neg g, if_neg g2]
theorem sw_in {sg : Nat → Int32} (hb : BdL sg) : ∀ c, c ≤ 40 → 0 ≤ (swN sg c).toInt ∧ (swN sg c).toInt ≤ 19998 * (c : Int) ∧ ((swN sg c).toInt = 0 ↔ ∀ j, j < c → sg (6 + j) = 0 ∧ sg (46 + j) = 0)
  | 0, _ => by
    have e : (swN sg 0).toInt = 0 := by rw [swN]; decide
    rw [e]
    exact ⟨by omega, by omega, fun _ j hj => absurd hj (by omega), fun _ => rfl⟩
  | c + 1, hc => by
    obtain ⟨h1, h2, h3⟩ := sw_in hb c (by omega)
    obtain ⟨b1, b2⟩ := hb c (by omega)
    have s1 := sz_int b1
    have s2 := sz_int b2
    have i1 := bd_int.mp b1
    have i2 := bd_int.mp b2
    have z : ∀ x : Int32, x = 0 ↔ x.toInt = 0 := fun x => by rw [← Int32.toInt_inj]; rfl
    have e1 : (szI (sg (6 + c)) + szI (sg (46 + c))).toInt = (szI (sg (6 + c))).toInt + (szI (sg (46 + c))).toInt := add_int (by split at s1 <;> split at s2 <;> omega) (by split at s1 <;> split at s2 <;> omega)
    have e2 : (swN sg (c + 1)).toInt = (swN sg c).toInt + ((szI (sg (6 + c))).toInt + (szI (sg (46 + c))).toInt) := by
      rw [swN, add_int (by rw [e1]; split at s1 <;> split at s2 <;> omega) (by rw [e1]; split at s1 <;> split at s2 <;> omega), e1]
    rw [e2]
    refine ⟨by split at s1 <;> split at s2 <;> omega, by split at s1 <;> split at s2 <;> omega, fun h j hj => ?_, fun h => ?_⟩
    · by_cases g : j = c
      · subst g
        rw [z, z]
        split at s1 <;> split at s2 <;> constructor <;> omega
      · exact h3.mp (by split at s1 <;> split at s2 <;> omega) j (by omega)
    · have g1 := h c (by omega)
      rw [z, z] at g1
      have g2 := h3.mpr fun j hj => h j (by omega)
      rw [g1.1] at s1
      rw [g1.2] at s2
      simp at s1 s2
      omega
set_option maxRecDepth 100000 in
set_option maxHeartbeats 4000000 in
theorem s_X4_isCalm {γ : Gm} {l : Launch} {M : Mm} {R : Rm} {K : KT} {b np ng : Nat} {sg : Nat → Int32}  (hT : Tb b) (hR : RT R b) (hk : Tk M R b np ng sg) (hb : BdL sg) (hK : K (some (.int (if 0 < swN sg 40 then 0 else 1))) 247 M R) : CL γ l mX4_isCalm 0 247 247 [.ref b] M R K := by
  show WP γ l mX4_isCalm 0 247 247 0 [some (.ref b), none] [] 247 M R K
  have e0 : (0 : Int32).toInt = 0 := by decide
  have hw := sw_in hb 40 (by omega)
  have loop : ∀ (q c : Nat), q + c = 40 → (∀ j, j < c → sg (6 + j) = 0 ∧ sg (46 + j) = 0) → WP γ l mX4_isCalm 0 247 247 2 [some (.ref b), some (.int (nI c))] [] 247 M R K := by
    intro q
    induction q with
    | zero =>
      intro c hq hz
      refine wp_iload_n dX4_isCalm_2 rfl ?_
      refine wp_bipush (v := 40) dX4_isCalm_3 (by decide) ?_
      refine wp_icN_ge (a := c) (b := 40) (tgt := 34) dX4_isCalm_5 (by decide) rfl rfl (by omega) (by omega) (fun h5 => ?_) (fun h5 => absurd h5 (by omega))
      refine wp_iconst (v := 1) dX4_isCalm_34 (by decide) ?_
      exact wp_iret dX4_isCalm_35 rfl rfl rfl (by rw [if_neg (fun h => by have := hw.2.2.mpr (fun j hj => hz j (by omega)); rw [Int32.lt_iff_toInt_lt, e0] at h; omega)] at hK; exact hK)
    | succ q ih =>
      intro c hq hz
      refine wp_iload_n dX4_isCalm_2 rfl ?_
      refine wp_bipush (v := 40) dX4_isCalm_3 (by decide) ?_
      refine wp_icN_ge (a := c) (b := 40) (tgt := 34) dX4_isCalm_5 (by decide) rfl rfl (by omega) (by omega) (fun h5 => absurd h5 (by omega)) (fun h5 => ?_)
      refine wp_aload_n dX4_isCalm_8 rfl ?_
      refine wp_getQ fX4_23 hT.t0.1 rfl hR.f1 (by omega) (by have := hT.lt; omega) dX4_isCalm_9 ?_
      refine wp_iload_n dX4_isCalm_12 rfl ?_
      refine wp_iadn (i := c) rfl hT.t2.1 (by have := hT.lt; omega) (by rw [hT.t2.2]; omega) (by have := hT.lt; omega) dX4_isCalm_13 (hk.clev (by omega)) ?_
      refine wp_if_ne (tgt := 26) dX4_isCalm_14 (by decide) (fun h14 => ?_) (fun h14 => ?_)
      · refine wp_iconst (v := 0) dX4_isCalm_26 (by decide) ?_
        exact wp_iret dX4_isCalm_27 rfl rfl rfl (by
          rw [if_pos (by
            rw [Int32.lt_iff_toInt_lt, e0]
            have g : ¬ (swN sg 40).toInt = 0 := fun h => by
              have q2 := hw.2.2.mp h c (by omega)
              first | exact h14 q2.1 | exact h23 q2.2
            omega)] at hK
          exact hK)
      · refine wp_aload_n dX4_isCalm_17 rfl ?_
        refine wp_getQ fX4_26 hT.t0.1 rfl hR.f2 (by omega) (by have := hT.lt; omega) dX4_isCalm_18 ?_
        refine wp_iload_n dX4_isCalm_21 rfl ?_
        refine wp_iadn (i := c) rfl hT.t3.1 (by have := hT.lt; omega) (by rw [hT.t3.2]; omega) (by have := hT.lt; omega) dX4_isCalm_22 (hk.cspd (by omega)) ?_
        refine wp_if_eq (tgt := 28) dX4_isCalm_23 (by decide) (fun h23 => ?_) (fun h23 => ?_)
        · refine wp_iinc (v := nI (c + 1)) (L' := [some (.ref b), some (.int (nI (c + 1)))]) dX4_isCalm_28 (by decide) rfl (inc_1 _) rfl ?_
          refine wp_goto (tgt := 2) dX4_isCalm_31 (by decide) ?_
          exact ih (c + 1) (by omega) fun j hj => by
            by_cases g : j = c
            · rw [g]
              exact ⟨Decidable.not_not.mp (fun q => by first | exact q h14 | exact h14 q), by first | exact h23 | exact Decidable.not_not.mp h23⟩
            · exact hz j (by omega)
        · refine wp_iconst (v := 0) dX4_isCalm_26 (by decide) ?_
          exact wp_iret dX4_isCalm_27 rfl rfl rfl (by
          rw [if_pos (by
            rw [Int32.lt_iff_toInt_lt, e0]
            have g : ¬ (swN sg 40).toInt = 0 := fun h => by
              have q2 := hw.2.2.mp h c (by omega)
              first | exact h14 q2.1 | exact h23 q2.2
            omega)] at hK
          exact hK)
  refine wp_iconst (v := 0) dX4_isCalm_0 (by decide) ?_
  refine wp_istore_n (L' := [some (.ref b), some (.int _)]) dX4_isCalm_1 (by decide) rfl ?_
  exact loop 40 0 rfl fun j hj => absurd hj (by omega)
