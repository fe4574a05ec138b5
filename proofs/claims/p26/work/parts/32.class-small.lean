/-! THE CLASS: numbers, paddles, gauges -/
def fmI (x z : Int32) : Int32 := if 0 ≤ x ^^^ z then x - x / z * z else if x - x / z * z = 0 then x - x / z * z else x - x / z * z + z
def mxI (x z : Int32) : Int32 := if x < z then z else x
def mnI (x z : Int32) : Int32 := if z < x then z else x
theorem fm_60 : ∀ x : Fin 60, ∀ a : Fin 60, fmI (nI x.val - 1 - nI a.val) 60 = nI ((x.val + 59 - a.val) % 60) := by decide +kernel
theorem fm_at {x a : Nat} (hx : x < 60) (ha : a < 60) : fmI (nI x - 1 - nI a) 60 = nI ((x + 59 - a) % 60) := fm_60 ⟨x, hx⟩ ⟨a, ha⟩
theorem rem_60 : ∀ x : Fin 60, nI (x.val + 1) - nI (x.val + 1) / 60 * 60 = nI ((x.val + 1) % 60) := by decide +kernel
theorem mn_60 : ∀ x : Fin 61, mnI (nI (x.val + 1)) 60 = nI (if x.val = 60 then 60 else x.val + 1) := by decide +kernel
theorem bnd_mm (x : Int32) : bnd x = mxI (-9999) (mnI 9999 x) := by
  unfold bnd mxI mnI
  have e1 : (-9999 : Int32).toInt = -9999 := by decide
  have e2 : (9999 : Int32).toInt = 9999 := by decide
  repeat' split
  all_goals first | rfl | (exfalso; simp only [Int32.lt_iff_toInt_lt, e1, e2] at *; omega) | (simp only [Int32.lt_iff_toInt_lt, ← Int32.toInt_inj, e1, e2] at *; omega)
set_option maxRecDepth 100000 in
set_option maxHeartbeats 4000000 in
theorem s_J9_max_7cf53 {γ : Gm} {l : Launch} {M : Mm} {R : Rm} {K : KT} {x z : Int32} (hK : K (some (.int (mxI x z))) 247 M R) : CL γ l mJ9_max_7cf53 0 247 247 [.int x, .int z] M R K := by
  show WP γ l mJ9_max_7cf53 0 247 247 0 [some (.int x), some (.int z)] [] 247 M R K
  refine wp_iload_n dJ9_max_7cf53_0 rfl ?_
  refine wp_iload_n dJ9_max_7cf53_1 rfl ?_
  refine wp_icmp_lt (tgt := 9) dJ9_max_7cf53_2 (by decide) (fun h2 => ?_) (fun h2 => ?_)
  · refine wp_iload_n dJ9_max_7cf53_9 rfl ?_
    exact wp_iret dJ9_max_7cf53_10 rfl rfl rfl (by unfold mxI at hK; first | (rw [if_pos h2] at hK; exact hK) | (rw [if_neg h2] at hK; exact hK))
  · refine wp_iload_n dJ9_max_7cf53_5 rfl ?_
    refine wp_goto (tgt := 10) dJ9_max_7cf53_6 (by decide) ?_
    exact wp_iret dJ9_max_7cf53_10 rfl rfl rfl (by unfold mxI at hK; first | (rw [if_pos h2] at hK; exact hK) | (rw [if_neg h2] at hK; exact hK))

set_option maxRecDepth 100000 in
set_option maxHeartbeats 4000000 in
theorem s_J9_min_7cf53 {γ : Gm} {l : Launch} {M : Mm} {R : Rm} {K : KT} {x z : Int32} (hK : K (some (.int (mnI x z))) 247 M R) : CL γ l mJ9_min_7cf53 0 247 247 [.int x, .int z] M R K := by
  show WP γ l mJ9_min_7cf53 0 247 247 0 [some (.int x), some (.int z)] [] 247 M R K
  refine wp_iload_n dJ9_min_7cf53_0 rfl ?_
  refine wp_iload_n dJ9_min_7cf53_1 rfl ?_
  refine wp_icmp_gt (tgt := 9) dJ9_min_7cf53_2 (by decide) (fun h2 => ?_) (fun h2 => ?_)
  · refine wp_iload_n dJ9_min_7cf53_9 rfl ?_
    exact wp_iret dJ9_min_7cf53_10 rfl rfl rfl (by unfold mnI at hK; first | (rw [if_pos h2] at hK; exact hK) | (rw [if_neg h2] at hK; exact hK))
  · refine wp_iload_n dJ9_min_7cf53_5 rfl ?_
    refine wp_goto (tgt := 10) dJ9_min_7cf53_6 (by decide) ?_
    exact wp_iret dJ9_min_7cf53_10 rfl rfl rfl (by unfold mnI at hK; first | (rw [if_pos h2] at hK; exact hK) | (rw [if_neg h2] at hK; exact hK))

set_option maxRecDepth 100000 in
set_option maxHeartbeats 4000000 in
theorem s_J9_abs_0f7a4 {γ : Gm} {l : Launch} {M : Mm} {R : Rm} {K : KT} {x : Int32} (hK : K (some (.int (szI x))) 247 M R) : CL γ l mJ9_abs_0f7a4 0 247 247 [.int x] M R K := by
  show WP γ l mJ9_abs_0f7a4 0 247 247 0 [some (.int x)] [] 247 M R K
  refine wp_iload_n dJ9_abs_0f7a4_0 rfl ?_
  refine wp_if_ge (tgt := 9) dJ9_abs_0f7a4_1 (by decide) (fun h1 => ?_) (fun h1 => ?_)
  · refine wp_iload_n dJ9_abs_0f7a4_9 rfl ?_
    exact wp_iret dJ9_abs_0f7a4_10 rfl rfl rfl (by unfold szI at hK; first | (rw [if_neg (Int32.not_lt.mpr h1)] at hK; exact hK) | (rw [if_pos (Int32.not_le.mp h1)] at hK; exact hK))
  · refine wp_iload_n dJ9_abs_0f7a4_4 rfl ?_
    refine wp_ineg dJ9_abs_0f7a4_5 ?_
    refine wp_goto (tgt := 10) dJ9_abs_0f7a4_6 (by decide) ?_
    exact wp_iret dJ9_abs_0f7a4_10 rfl rfl rfl (by unfold szI at hK; first | (rw [if_neg (Int32.not_lt.mpr h1)] at hK; exact hK) | (rw [if_pos (Int32.not_le.mp h1)] at hK; exact hK))

set_option maxRecDepth 100000 in
set_option maxHeartbeats 4000000 in
theorem s_J9_floorMod_7cf53 {γ : Gm} {l : Launch} {M : Mm} {R : Rm} {K : KT} {x z : Int32} (hz : ¬ z = 0) (hK : K (some (.int (fmI x z))) 247 M R) : CL γ l mJ9_floorMod_7cf53 0 247 247 [.int x, .int z] M R K := by
  show WP γ l mJ9_floorMod_7cf53 0 247 247 0 [some (.int x), some (.int z), none] [] 247 M R K
  refine wp_iload_n dJ9_floorMod_7cf53_0 rfl ?_
  refine wp_iload_n dJ9_floorMod_7cf53_1 rfl ?_
  refine wp_irem dJ9_floorMod_7cf53_2 (hz) ?_
  refine wp_istore_n (L' := [some (.int x), some (.int z), some (.int _)]) dJ9_floorMod_7cf53_3 (by decide) rfl ?_
  refine wp_iload_n dJ9_floorMod_7cf53_4 rfl ?_
  refine wp_iload_n dJ9_floorMod_7cf53_5 rfl ?_
  refine wp_ixor dJ9_floorMod_7cf53_6 ?_
  refine wp_if_ge (tgt := 18) dJ9_floorMod_7cf53_7 (by decide) (fun h7 => ?_) (fun h7 => ?_)
  · refine wp_iload_n dJ9_floorMod_7cf53_18 rfl ?_
    exact wp_iret dJ9_floorMod_7cf53_19 rfl rfl rfl (by unfold fmI at hK; first | (rw [if_pos h7] at hK; exact hK) | (rw [if_neg h7, if_pos h11] at hK; exact hK))
  · refine wp_iload_n dJ9_floorMod_7cf53_10 rfl ?_
    refine wp_if_eq (tgt := 18) dJ9_floorMod_7cf53_11 (by decide) (fun h11 => ?_) (fun h11 => ?_)
    · refine wp_iload_n dJ9_floorMod_7cf53_18 rfl ?_
      exact wp_iret dJ9_floorMod_7cf53_19 rfl rfl rfl (by unfold fmI at hK; first | (rw [if_pos h7] at hK; exact hK) | (rw [if_neg h7, if_pos h11] at hK; exact hK))
    · refine wp_iload_n dJ9_floorMod_7cf53_14 rfl ?_
      refine wp_iload_n dJ9_floorMod_7cf53_15 rfl ?_
      refine wp_iadd dJ9_floorMod_7cf53_16 ?_
      exact wp_iret dJ9_floorMod_7cf53_17 rfl rfl rfl (by unfold fmI at hK; rw [if_neg h7, if_neg h11] at hK; exact hK)

set_option maxRecDepth 100000 in
set_option maxHeartbeats 4000000 in
theorem s_X5_isOutside {γ : Gm} {l : Launch} {M : Mm} {R : Rm} {K : KT} {x z : Int32} (hK : K (some (.int (b01 (x < 0 ∨ z ≤ x)))) 247 M R) : CL γ l mX5_isOutside 0 247 247 [.int x, .int z] M R K := by
  show WP γ l mX5_isOutside 0 247 247 0 [some (.int x), some (.int z)] [] 247 M R K
  refine wp_iload_n dX5_isOutside_0 rfl ?_
  refine wp_if_lt (tgt := 9) dX5_isOutside_1 (by decide) (fun h1 => ?_) (fun h1 => ?_)
  · refine wp_iconst (v := 1) dX5_isOutside_9 (by decide) ?_
    refine wp_goto (tgt := 14) dX5_isOutside_10 (by decide) ?_
    exact wp_iret dX5_isOutside_14 rfl rfl rfl (by first | (rw [b01_t (Or.inl h1)] at hK; exact hK) | (rw [b01_f (fun h => h.elim h1 (fun h => Int32.not_lt.mpr h h6))] at hK; exact hK) | (rw [b01_t (Or.inr (Int32.not_lt.mp h6))] at hK; exact hK))
  · refine wp_iload_n dX5_isOutside_4 rfl ?_
    refine wp_iload_n dX5_isOutside_5 rfl ?_
    refine wp_icmp_lt (tgt := 13) dX5_isOutside_6 (by decide) (fun h6 => ?_) (fun h6 => ?_)
    · refine wp_iconst (v := 0) dX5_isOutside_13 (by decide) ?_
      exact wp_iret dX5_isOutside_14 rfl rfl rfl (by first | (rw [b01_t (Or.inl h1)] at hK; exact hK) | (rw [b01_f (fun h => h.elim h1 (fun h => Int32.not_lt.mpr h h6))] at hK; exact hK) | (rw [b01_t (Or.inr (Int32.not_lt.mp h6))] at hK; exact hK))
    · refine wp_iconst (v := 1) dX5_isOutside_9 (by decide) ?_
      refine wp_goto (tgt := 14) dX5_isOutside_10 (by decide) ?_
      exact wp_iret dX5_isOutside_14 rfl rfl rfl (by first | (rw [b01_t (Or.inl h1)] at hK; exact hK) | (rw [b01_f (fun h => h.elim h1 (fun h => Int32.not_lt.mpr h h6))] at hK; exact hK) | (rw [b01_t (Or.inr (Int32.not_lt.mp h6))] at hK; exact hK))

set_option maxRecDepth 100000 in
set_option maxHeartbeats 4000000 in
theorem s_X5_asNumber {γ : Gm} {l : Launch} {M : Mm} {R : Rm} {K : KT} {p : Prop} [Decidable p] (hK : K (some (.int (b01 p))) 247 M R) : CL γ l mX5_asNumber 0 247 247 [.int (b01 p)] M R K := by
  show WP γ l mX5_asNumber 0 247 247 0 [some (.int (b01 p))] [] 247 M R K
  refine wp_iload_n dX5_asNumber_0 rfl ?_
  refine wp_if_eq (tgt := 8) dX5_asNumber_1 (by decide) (fun h1 => ?_) (fun h1 => ?_)
  · refine wp_iconst (v := 0) dX5_asNumber_8 (by decide) ?_
    exact wp_iret dX5_asNumber_9 rfl rfl rfl (by first | (rw [b01_f (b01_0.mp h1)] at hK; exact hK) | (rw [b01_t (b01_1.mp h1)] at hK; exact hK))
  · refine wp_iconst (v := 1) dX5_asNumber_4 (by decide) ?_
    refine wp_goto (tgt := 9) dX5_asNumber_5 (by decide) ?_
    exact wp_iret dX5_asNumber_9 rfl rfl rfl (by first | (rw [b01_f (b01_0.mp h1)] at hK; exact hK) | (rw [b01_t (b01_1.mp h1)] at hK; exact hK))

set_option maxRecDepth 100000 in
set_option maxHeartbeats 4000000 in
theorem s_X5_withinBounds {γ : Gm} {l : Launch} {M : Mm} {R : Rm} {K : KT} {x : Int32} (hK : K (some (.int (bnd x))) 247 M R) : CL γ l mX5_withinBounds 1 247 247 [.int x] M R K := by
  show WP γ l mX5_withinBounds 1 247 247 0 [some (.int x)] [] 247 M R K
  refine wp_sipush (v := (-9999)) dX5_withinBounds_0 (by decide) ?_
  refine wp_sipush (v := 9999) dX5_withinBounds_3 (by decide) ?_
  refine wp_iload_n dX5_withinBounds_6 rfl ?_
  refine wp_cS2 (z := mJ9_min_7cf53) (n' := 247) kX5_251 dX5_withinBounds_7 (Nat.le_of_ble_eq_true rfl) (Nat.le_of_ble_eq_true rfl) (Nat.le_of_ble_eq_true rfl) (Nat.le_refl _) (Nat.le_refl _) (s_J9_min_7cf53 (wp_af ?_))
  refine wp_cS2 (z := mJ9_max_7cf53) (n' := 247) kX5_207 dX5_withinBounds_10 (Nat.le_of_ble_eq_true rfl) (Nat.le_of_ble_eq_true rfl) (Nat.le_of_ble_eq_true rfl) (Nat.le_refl _) (Nat.le_refl _) (s_J9_max_7cf53 (wp_af ?_))
  exact wp_iret dX5_withinBounds_13 rfl rfl rfl (bnd_mm x ▸ hK)

theorem rc_iff {so he pe f : Int32} : rcOk so he pe f ↔ ¬ (so < 0 ∨ 4 ≤ so) ∧ ¬ he < -999 ∧ ¬ 999 < he ∧ ¬ pe < 1 ∧ ¬ 60 < pe ∧ ¬ (f < 0 ∨ 60 ≤ f) := by
  have e0 : (0 : Int32).toInt = 0 := by decide
  have e1 : (1 : Int32).toInt = 1 := by decide
  have e3 : (3 : Int32).toInt = 3 := by decide
  have e4 : (4 : Int32).toInt = 4 := by decide
  have e5 : (59 : Int32).toInt = 59 := by decide
  have e6 : (60 : Int32).toInt = 60 := by decide
  have e7 : (999 : Int32).toInt = 999 := by decide
  have e8 : (-999 : Int32).toInt = -999 := by decide
  simp only [rcOk, Int32.lt_iff_toInt_lt, Int32.le_iff_toInt_le, e0, e1, e3, e4, e5, e6, e7, e8]
  omega
theorem push_min {t p : Int32} : mnI t (p - t) = if t < p - t then t else p - t := by
  unfold mnI
  by_cases h1 : p - t < t
  · rw [if_pos h1, if_neg (fun h => by simp only [Int32.lt_iff_toInt_lt] at *; omega)]
  · rw [if_neg h1]
    by_cases h2 : t < p - t
    · rw [if_pos h2]
    · rw [if_neg h2]
      apply Int32.toInt_inj.mp
      simp only [Int32.lt_iff_toInt_lt] at *
      omega
set_option maxRecDepth 100000 in
set_option maxHeartbeats 4000000 in
theorem s_X3_isRecipe {γ : Gm} {l : Launch} {M : Mm} {R : Rm} {K : KT} {so he pe f : Int32} (hK : K (some (.int (b01 (rcOk so he pe f)))) 247 M R) : CL γ l mX3_isRecipe 1 247 247 [.int so, .int he, .int pe, .int f] M R K := by
  show WP γ l mX3_isRecipe 1 247 247 0 [some (.int so), some (.int he), some (.int pe), some (.int f)] [] 247 M R K
  refine wp_iload_n dX3_isRecipe_0 rfl ?_
  refine wp_iconst (v := 4) dX3_isRecipe_1 (by decide) ?_
  refine wp_cT2 (z := mX5_isOutside) (n' := 247) kX3_31 dX3_isRecipe_2 (Nat.le_of_ble_eq_true rfl) (Nat.le_of_ble_eq_true rfl) (Nat.le_of_ble_eq_true rfl) (Nat.le_refl _) (Nat.le_refl _) (s_X5_isOutside (wp_af ?_))
  refine wp_bq_ne (tgt := 46) dX3_isRecipe_5 (by decide) (fun h5 => ?_) (fun h5 => ?_)
  · refine wp_iconst (v := 0) dX3_isRecipe_46 (by decide) ?_
    exact wp_iret dX3_isRecipe_47 rfl rfl rfl (by first | (rw [b01_t (rc_iff.mpr ⟨h5, h12, h19, h24, h30, h39⟩)] at hK; exact hK) | (rw [b01_f (fun h => by have q := rc_iff.mp h; first | exact q.1 h5 | exact q.2.1 h12 | exact q.2.2.1 h19 | exact q.2.2.2.1 h24 | exact q.2.2.2.2.1 h30 | exact q.2.2.2.2.2 h39)] at hK; exact hK))
  · refine wp_iload_n dX3_isRecipe_8 rfl ?_
    refine wp_sipush (v := (-999)) dX3_isRecipe_9 (by decide) ?_
    refine wp_icmp_lt (tgt := 46) dX3_isRecipe_12 (by decide) (fun h12 => ?_) (fun h12 => ?_)
    · refine wp_iconst (v := 0) dX3_isRecipe_46 (by decide) ?_
      exact wp_iret dX3_isRecipe_47 rfl rfl rfl (by first | (rw [b01_t (rc_iff.mpr ⟨h5, h12, h19, h24, h30, h39⟩)] at hK; exact hK) | (rw [b01_f (fun h => by have q := rc_iff.mp h; first | exact q.1 h5 | exact q.2.1 h12 | exact q.2.2.1 h19 | exact q.2.2.2.1 h24 | exact q.2.2.2.2.1 h30 | exact q.2.2.2.2.2 h39)] at hK; exact hK))
    · refine wp_iload_n dX3_isRecipe_15 rfl ?_
      refine wp_sipush (v := 999) dX3_isRecipe_16 (by decide) ?_
      refine wp_icmp_gt (tgt := 46) dX3_isRecipe_19 (by decide) (fun h19 => ?_) (fun h19 => ?_)
      · refine wp_iconst (v := 0) dX3_isRecipe_46 (by decide) ?_
        exact wp_iret dX3_isRecipe_47 rfl rfl rfl (by first | (rw [b01_t (rc_iff.mpr ⟨h5, h12, h19, h24, h30, h39⟩)] at hK; exact hK) | (rw [b01_f (fun h => by have q := rc_iff.mp h; first | exact q.1 h5 | exact q.2.1 h12 | exact q.2.2.1 h19 | exact q.2.2.2.1 h24 | exact q.2.2.2.2.1 h30 | exact q.2.2.2.2.2 h39)] at hK; exact hK))
      · refine wp_iload_n dX3_isRecipe_22 rfl ?_
        refine wp_iconst (v := 1) dX3_isRecipe_23 (by decide) ?_
        refine wp_icmp_lt (tgt := 46) dX3_isRecipe_24 (by decide) (fun h24 => ?_) (fun h24 => ?_)
        · refine wp_iconst (v := 0) dX3_isRecipe_46 (by decide) ?_
          exact wp_iret dX3_isRecipe_47 rfl rfl rfl (by first | (rw [b01_t (rc_iff.mpr ⟨h5, h12, h19, h24, h30, h39⟩)] at hK; exact hK) | (rw [b01_f (fun h => by have q := rc_iff.mp h; first | exact q.1 h5 | exact q.2.1 h12 | exact q.2.2.1 h19 | exact q.2.2.2.1 h24 | exact q.2.2.2.2.1 h30 | exact q.2.2.2.2.2 h39)] at hK; exact hK))
        · refine wp_iload_n dX3_isRecipe_27 rfl ?_
          refine wp_bipush (v := 60) dX3_isRecipe_28 (by decide) ?_
          refine wp_icmp_gt (tgt := 46) dX3_isRecipe_30 (by decide) (fun h30 => ?_) (fun h30 => ?_)
          · refine wp_iconst (v := 0) dX3_isRecipe_46 (by decide) ?_
            exact wp_iret dX3_isRecipe_47 rfl rfl rfl (by first | (rw [b01_t (rc_iff.mpr ⟨h5, h12, h19, h24, h30, h39⟩)] at hK; exact hK) | (rw [b01_f (fun h => by have q := rc_iff.mp h; first | exact q.1 h5 | exact q.2.1 h12 | exact q.2.2.1 h19 | exact q.2.2.2.1 h24 | exact q.2.2.2.2.1 h30 | exact q.2.2.2.2.2 h39)] at hK; exact hK))
          · refine wp_iload_n dX3_isRecipe_33 rfl ?_
            refine wp_bipush (v := 60) dX3_isRecipe_34 (by decide) ?_
            refine wp_cT2 (z := mX5_isOutside) (n' := 247) kX3_31 dX3_isRecipe_36 (Nat.le_of_ble_eq_true rfl) (Nat.le_of_ble_eq_true rfl) (Nat.le_of_ble_eq_true rfl) (Nat.le_refl _) (Nat.le_refl _) (s_X5_isOutside (wp_af ?_))
            refine wp_bq_ne (tgt := 46) dX3_isRecipe_39 (by decide) (fun h39 => ?_) (fun h39 => ?_)
            · refine wp_iconst (v := 0) dX3_isRecipe_46 (by decide) ?_
              exact wp_iret dX3_isRecipe_47 rfl rfl rfl (by first | (rw [b01_t (rc_iff.mpr ⟨h5, h12, h19, h24, h30, h39⟩)] at hK; exact hK) | (rw [b01_f (fun h => by have q := rc_iff.mp h; first | exact q.1 h5 | exact q.2.1 h12 | exact q.2.2.1 h19 | exact q.2.2.2.1 h24 | exact q.2.2.2.2.1 h30 | exact q.2.2.2.2.2 h39)] at hK; exact hK))
            · refine wp_iconst (v := 1) dX3_isRecipe_42 (by decide) ?_
              refine wp_goto (tgt := 47) dX3_isRecipe_43 (by decide) ?_
              exact wp_iret dX3_isRecipe_47 rfl rfl rfl (by first | (rw [b01_t (rc_iff.mpr ⟨h5, h12, h19, h24, h30, h39⟩)] at hK; exact hK) | (rw [b01_f (fun h => by have q := rc_iff.mp h; first | exact q.1 h5 | exact q.2.1 h12 | exact q.2.2.1 h19 | exact q.2.2.2.1 h24 | exact q.2.2.2.2.1 h30 | exact q.2.2.2.2.2 h39)] at hK; exact hK))

theorem nar_z {v : Int32} (h : v = 0 ∨ v = 1) : narrow .boolean (.int v) = .int v ∧ fits .boolean (.int v) = true := by
  rcases h with h | h <;> subst h <;> exact ⟨rfl, rfl⟩
set_option maxRecDepth 100000 in
set_option maxHeartbeats 4000000 in
theorem s_X3_pushAt {γ : Gm} {l : Launch} {M : Mm} {R : Rm} {K : KT} {b t : Nat} {so p : Nat} {st he0 ph : Int32}  (hT : Tb b) (hp : b + 6 ≤ t ∧ t < b + 12) (hso : M t 1 = nI so) (hs4 : so < 4) (he : M t 2 = he0) (hpe : M t 3 = nI p) (hp1 : 1 ≤ p) (hp2 : p ≤ 60) (hph : M t 4 = ph) (hK : K (some (.int (pushV (nI so) he0 (nI p) (remI (st + ph) (nI p))))) 247 M R) : CL γ l mX3_pushAt 1 247 247 [.ref t, .int st] M R K := by
  show WP γ l mX3_pushAt 1 247 247 0 [some (.ref t), some (.int st), none] [] 247 M R K
  refine wp_aload_n dX3_pushAt_0 rfl ?_
  refine wp_getJ (v := nI p) fX3_9 (hT.tp hp.1 hp.2).1 rfl (by have := hT.lt; omega) dX3_pushAt_1 (hpe) ?_
  refine wp_iconst (v := 1) dX3_pushAt_4 (by decide) ?_
  refine wp_icN_ge (a := p) (b := 1) (tgt := 10) dX3_pushAt_5 (by decide) rfl rfl (by omega) (by omega) (fun h5 => ?_) (fun h5 => absurd hp1 (by omega))
  refine wp_iload_n dX3_pushAt_10 rfl ?_
  refine wp_aload_n dX3_pushAt_11 rfl ?_
  refine wp_getJ fX3_24 (hT.tp hp.1 hp.2).1 rfl (by have := hT.lt; omega) dX3_pushAt_12 (hph) ?_
  refine wp_iadd dX3_pushAt_15 ?_
  refine wp_aload_n dX3_pushAt_16 rfl ?_
  refine wp_getJ (v := nI p) fX3_9 (hT.tp hp.1 hp.2).1 rfl (by have := hT.lt; omega) dX3_pushAt_17 (hpe) ?_
  refine wp_irem dX3_pushAt_20 ((nI_ne0 (by omega) (by omega))) ?_
  refine wp_topv (fun w e_w => ?_)
  refine wp_istore_n (L' := [some (.ref t), some (.int st), some (.int _)]) dX3_pushAt_21 (by decide) rfl ?_
  have hK2 := hK
  rw [remI, ← e_w] at hK2
  refine wp_aload_n dX3_pushAt_22 rfl ?_
  refine wp_getJ (v := nI so) fX3_18 (hT.tp hp.1 hp.2).1 rfl (by have := hT.lt; omega) dX3_pushAt_23 (hso) ?_
  refine wp_tswitch [(1, 52), (2, 71), (3, 94)] 122 dX3_pushAt_26 (by decide) (by decide) (by decide +kernel) ?_
  refine wp_sw (fun h26_0 => ?_) (fun h26_0 => ?_)
  · have g : so = 1 := (nI_eq (by omega) (by decide)).mp (show nI so = nI 1 from h26_0)
    subst g
    refine wp_aload_n dX3_pushAt_52 rfl ?_
    refine wp_getJ fX3_21 (hT.tp hp.1 hp.2).1 rfl (by have := hT.lt; omega) dX3_pushAt_53 (he) ?_
    refine wp_iconst (v := 2) dX3_pushAt_56 (by decide) ?_
    refine wp_iload_n dX3_pushAt_57 rfl ?_
    refine wp_imul dX3_pushAt_58 ?_
    refine wp_aload_n dX3_pushAt_59 rfl ?_
    refine wp_getJ (v := nI p) fX3_9 (hT.tp hp.1 hp.2).1 rfl (by have := hT.lt; omega) dX3_pushAt_60 (hpe) ?_
    refine wp_isub dX3_pushAt_63 ?_
    refine wp_imul dX3_pushAt_64 ?_
    refine wp_aload_n dX3_pushAt_65 rfl ?_
    refine wp_getJ (v := nI p) fX3_9 (hT.tp hp.1 hp.2).1 rfl (by have := hT.lt; omega) dX3_pushAt_66 (hpe) ?_
    refine wp_idiv dX3_pushAt_69 ((nI_ne0 (by omega) (by omega))) ?_
    exact wp_iret dX3_pushAt_70 rfl rfl rfl (by rw [pushV, if_neg (by decide), if_pos (by decide)] at hK2; exact hK2)
  refine wp_sw (fun h26_1 => ?_) (fun h26_1 => ?_)
  · have g : so = 2 := (nI_eq (by omega) (by decide)).mp (show nI so = nI 2 from h26_1)
    subst g
    refine wp_iconst (v := 2) dX3_pushAt_71 (by decide) ?_
    refine wp_iload_n dX3_pushAt_72 rfl ?_
    refine wp_imul dX3_pushAt_73 ?_
    refine wp_aload_n dX3_pushAt_74 rfl ?_
    refine wp_getJ (v := nI p) fX3_9 (hT.tp hp.1 hp.2).1 rfl (by have := hT.lt; omega) dX3_pushAt_75 (hpe) ?_
    refine wp_icmp_ge (tgt := 88) dX3_pushAt_78 (by decide) (fun h78 => ?_) (fun h78 => ?_)
    · refine wp_aload_n dX3_pushAt_88 rfl ?_
      refine wp_getJ fX3_21 (hT.tp hp.1 hp.2).1 rfl (by have := hT.lt; omega) dX3_pushAt_89 (he) ?_
      refine wp_ineg dX3_pushAt_92 ?_
      exact wp_iret dX3_pushAt_93 rfl rfl rfl (by rw [pushV, if_neg (by decide), if_neg (by decide), if_pos (by decide)] at hK2; first | (rw [if_neg (Int32.not_lt.mpr h78)] at hK2; exact hK2) | (rw [if_pos (Int32.not_le.mp h78)] at hK2; exact hK2))
    · refine wp_aload_n dX3_pushAt_81 rfl ?_
      refine wp_getJ fX3_21 (hT.tp hp.1 hp.2).1 rfl (by have := hT.lt; omega) dX3_pushAt_82 (he) ?_
      refine wp_goto (tgt := 93) dX3_pushAt_85 (by decide) ?_
      exact wp_iret dX3_pushAt_93 rfl rfl rfl (by rw [pushV, if_neg (by decide), if_neg (by decide), if_pos (by decide)] at hK2; first | (rw [if_neg (Int32.not_lt.mpr h78)] at hK2; exact hK2) | (rw [if_pos (Int32.not_le.mp h78)] at hK2; exact hK2))
  refine wp_sw (fun h26_2 => ?_) (fun h26_2 => ?_)
  · have g : so = 3 := (nI_eq (by omega) (by decide)).mp (show nI so = nI 3 from h26_2)
    subst g
    refine wp_aload_n dX3_pushAt_94 rfl ?_
    refine wp_getJ fX3_21 (hT.tp hp.1 hp.2).1 rfl (by have := hT.lt; omega) dX3_pushAt_95 (he) ?_
    refine wp_iconst (v := 4) dX3_pushAt_98 (by decide) ?_
    refine wp_iload_n dX3_pushAt_99 rfl ?_
    refine wp_aload_n dX3_pushAt_100 rfl ?_
    refine wp_getJ (v := nI p) fX3_9 (hT.tp hp.1 hp.2).1 rfl (by have := hT.lt; omega) dX3_pushAt_101 (hpe) ?_
    refine wp_iload_n dX3_pushAt_104 rfl ?_
    refine wp_isub dX3_pushAt_105 ?_
    refine wp_cS2 (z := mJ9_min_7cf53) (n' := 247) kX3_35 dX3_pushAt_106 (Nat.le_of_ble_eq_true rfl) (Nat.le_of_ble_eq_true rfl) (Nat.le_of_ble_eq_true rfl) (Nat.le_refl _) (Nat.le_refl _) (s_J9_min_7cf53 (wp_af ?_))
    rw [push_min]
    refine wp_imul dX3_pushAt_109 ?_
    refine wp_aload_n dX3_pushAt_110 rfl ?_
    refine wp_getJ (v := nI p) fX3_9 (hT.tp hp.1 hp.2).1 rfl (by have := hT.lt; omega) dX3_pushAt_111 (hpe) ?_
    refine wp_isub dX3_pushAt_114 ?_
    refine wp_imul dX3_pushAt_115 ?_
    refine wp_aload_n dX3_pushAt_116 rfl ?_
    refine wp_getJ (v := nI p) fX3_9 (hT.tp hp.1 hp.2).1 rfl (by have := hT.lt; omega) dX3_pushAt_117 (hpe) ?_
    refine wp_idiv dX3_pushAt_120 ((nI_ne0 (by omega) (by omega))) ?_
    exact wp_iret dX3_pushAt_121 rfl rfl rfl (by rw [pushV, if_neg (by decide), if_neg (by decide), if_neg (by decide)] at hK2; exact hK2)
  refine wp_sw0 ?_
  refine wp_aload_n dX3_pushAt_122 rfl ?_
  refine wp_getJ fX3_21 (hT.tp hp.1 hp.2).1 rfl (by have := hT.lt; omega) dX3_pushAt_123 (he) ?_
  exact wp_iret dX3_pushAt_126 rfl rfl rfl (by have q1 : ¬ so = 1 := (fun e => h26_0 (by rw [e]; rfl)); have q2 : ¬ so = 2 := (fun e => h26_1 (by rw [e]; rfl)); have q3 : ¬ so = 3 := (fun e => h26_2 (by rw [e]; rfl)); rw [pushV, if_pos (by rw [show so = 0 by omega]; rfl)] at hK2; exact hK2)

set_option maxRecDepth 100000 in
set_option maxHeartbeats 4000000 in
theorem s_X3_copyFrom {γ : Gm} {l : Launch} {M : Mm} {R : Rm} {K : KT} {b c t q : Nat}  (hT : Tb b) (hp : b + 6 ≤ t ∧ t < b + 12) (hU : Tb c) (hq : c + 6 ≤ q ∧ q < c + 12) (htq : t ≠ q) (hz : M q 5 = 0 ∨ M q 5 = 1) (hK : ∀ M1, (∀ a, a ≠ t → M1 a = M a) → (∀ j, j < 6 → M1 t j = M q j) → K none 247 M1 R) : CL γ l mX3_copyFrom 0 247 247 [.ref t, .ref q] M R K := by
  show WP γ l mX3_copyFrom 0 247 247 0 [some (.ref t), some (.ref q)] [] 247 M R K
  refine wp_aload_n dX3_copyFrom_0 rfl ?_
  refine wp_aload_n dX3_copyFrom_1 rfl ?_
  refine wp_getI fX3_15 (hU.tp hq.1 hq.2).1 rfl (by have := hU.lt; omega) dX3_copyFrom_2 ?_
  refine wp_putI pX3_15 (hT.tp hp.1 hp.2).1 rfl ⟨rfl, rfl⟩ (by have := hT.lt; omega) dX3_copyFrom_5 ?_
  refine wp_aload_n dX3_copyFrom_8 rfl ?_
  refine wp_aload_n dX3_copyFrom_9 rfl ?_
  refine wp_getI fX3_18 (hU.tp hq.1 hq.2).1 rfl (by have := hU.lt; omega) dX3_copyFrom_10 ?_
  refine wp_putI pX3_18 (hT.tp hp.1 hp.2).1 rfl ⟨rfl, rfl⟩ (by have := hT.lt; omega) dX3_copyFrom_13 ?_
  refine wp_aload_n dX3_copyFrom_16 rfl ?_
  refine wp_aload_n dX3_copyFrom_17 rfl ?_
  refine wp_getI fX3_21 (hU.tp hq.1 hq.2).1 rfl (by have := hU.lt; omega) dX3_copyFrom_18 ?_
  refine wp_putI pX3_21 (hT.tp hp.1 hp.2).1 rfl ⟨rfl, rfl⟩ (by have := hT.lt; omega) dX3_copyFrom_21 ?_
  refine wp_aload_n dX3_copyFrom_24 rfl ?_
  refine wp_aload_n dX3_copyFrom_25 rfl ?_
  refine wp_getI fX3_9 (hU.tp hq.1 hq.2).1 rfl (by have := hU.lt; omega) dX3_copyFrom_26 ?_
  refine wp_putI pX3_9 (hT.tp hp.1 hp.2).1 rfl ⟨rfl, rfl⟩ (by have := hT.lt; omega) dX3_copyFrom_29 ?_
  refine wp_aload_n dX3_copyFrom_32 rfl ?_
  refine wp_aload_n dX3_copyFrom_33 rfl ?_
  refine wp_getI fX3_24 (hU.tp hq.1 hq.2).1 rfl (by have := hU.lt; omega) dX3_copyFrom_34 ?_
  refine wp_putI pX3_24 (hT.tp hp.1 hp.2).1 rfl ⟨rfl, rfl⟩ (by have := hT.lt; omega) dX3_copyFrom_37 ?_
  refine wp_aload_n dX3_copyFrom_40 rfl ?_
  refine wp_aload_n dX3_copyFrom_41 rfl ?_
  refine wp_getI fX3_27 (hU.tp hq.1 hq.2).1 rfl (by have := hU.lt; omega) dX3_copyFrom_42 ?_
  refine wp_putI pX3_27 (hT.tp hp.1 hp.2).1 rfl (nar_z (by simp only [show ∀ (X : Mm) (k : Nat) (v : Int32), (u2 X t k v) q = X q from fun X k v => u2_n _ _ _ (Ne.symm htq)]; exact hz)) (by have := hT.lt; omega) dX3_copyFrom_45 ?_
  exact wp_vret dX3_copyFrom_48 rfl rfl (hK _ (fun a ha => by rw [u2_n _ _ _ ha, u2_n _ _ _ ha, u2_n _ _ _ ha, u2_n _ _ _ ha, u2_n _ _ _ ha, u2_n _ _ _ ha]) (fun j hj => by
      have e : ∀ (X : Mm) (k : Nat) (v : Int32), (u2 X t k v) q = X q := fun X k v => u2_n _ _ _ (Ne.symm htq)
      simp only [e, u2_s]
      rcases (by omega : j = 0 ∨ j = 1 ∨ j = 2 ∨ j = 3 ∨ j = 4 ∨ j = 5) with h | h | h | h | h | h <;> subst h <;> simp [up]))
