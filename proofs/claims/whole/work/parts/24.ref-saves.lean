/-! THE REFERENCE: undo, save, restore; signs put and wiped -/
theorem nI_m1 (n : Nat) : nI (n + 1) - 1 = nI n := nI_pred n
theorem slot_in {v : Int32} (h : 0 ≤ v ∧ v ≤ 1) : ∃ k, k < 2 ∧ v = nI k := by
  obtain ⟨j, h1, h2⟩ := nI_of2 (M := 1) (n := 1) (by decide) (Int32.not_lt.mpr h.1) h.2
  exact ⟨j, by omega, h2⟩
set_option maxRecDepth 100000 in
set_option maxHeartbeats 4000000 in
theorem s_X6_undo {γ : Gm} {l : Launch} {M : Mm} {R : Rm} {K : KT} {rc : Nat} {sg : Nat → Int32} (hs : M 236 = sg) (hM : RM R) (hrc : M 235 3 = nI rc) (h6 : rc ≤ 6) (hE : rc = 0 → K (some (.int (-5))) 243 M R) (hK : ∀ q, rc = q + 1 → K (some (.int (nI q))) 243 (up (u2 M 235 3 (nI q)) 236 (va_cpy (M 238) sg (370 * q) 0 370)) R) : CL γ l mX6_undo 1 243 243 [.ref 235] M R K := by
  show WP γ l mX6_undo 1 243 243 0 [some (.ref 235)] [] 243 M R K
  refine wp_aload_n dX6_undo_0 rfl ?_
  refine wp_getJ (v := nI rc) fX6_31 tA_235 rfl (Nat.le_of_ble_eq_true rfl) dX6_undo_1 (hrc) ?_
  refine wp_ifN_ne (a := rc) (tgt := 10) dX6_undo_4 (by decide) rfl (by omega) (fun h4 => ?_) (fun h4 => ?_)
  · obtain ⟨q, e_q⟩ : ∃ q, rc = q + 1 := ⟨rc - 1, by omega⟩
    have hr2 : (u2 M 235 3 (nI q)) 235 3 = nI q := by rw [u2_s, up_s]
    have hr3 : (up (u2 M 235 3 (nI q)) 236 (va_cpy ((u2 M 235 3 (nI q)) 238) ((u2 M 235 3 (nI q)) 236) (370 * q) 0 370)) 235 3 = nI q := by rw [up_n _ _ (by decide)]; exact hr2
    refine wp_aload_n dX6_undo_10 rfl ?_
    refine wp_dup dX6_undo_11 rfl ?_
    refine wp_getJ (v := nI rc) fX6_31 tA_235 rfl (Nat.le_of_ble_eq_true rfl) dX6_undo_12 (hrc) ?_
    refine wp_iconst (v := 1) dX6_undo_15 (by decide) ?_
    refine wp_isub dX6_undo_16 ?_
    refine wp_top (z := nI q) (by rw [e_q]; exact nI_m1 q) ?_
    refine wp_putI pX6_31 tA_235 rfl ⟨rfl, rfl⟩ (Nat.le_of_ble_eq_true rfl) dX6_undo_17 ?_
    refine wp_aload_n dX6_undo_20 rfl ?_
    refine wp_getQ fX6_16 tA_235 rfl hM.f2 (by decide) (Nat.le_of_ble_eq_true rfl) dX6_undo_21 ?_
    refine wp_aload_n dX6_undo_24 rfl ?_
    refine wp_getJ (v := nI q) fX6_31 tA_235 rfl (Nat.le_of_ble_eq_true rfl) dX6_undo_25 (hr2) ?_
    refine wp_sipush (v := 370) dX6_undo_28 (by decide) ?_
    refine wp_imul dX6_undo_31 ?_
    refine wp_top (z := nI (370 * q)) (by rw [show (370 : Int32) = nI 370 from rfl, pk_mul, Nat.mul_comm]) ?_
    refine wp_aload_n dX6_undo_32 rfl ?_
    refine wp_getQ fX6_7 tA_235 rfl hM.f0 (by decide) (Nat.le_of_ble_eq_true rfl) dX6_undo_33 ?_
    refine wp_iconst (v := 0) dX6_undo_36 (by decide) ?_
    refine wp_cS4 (z := mX6_moves) (n' := 243) kX6_35 dX6_undo_37 (Nat.le_of_ble_eq_true rfl) (Nat.le_of_ble_eq_true rfl) (Nat.le_of_ble_eq_true rfl) (Nat.le_refl _) (Nat.le_refl _) (s_X6_moves (a := 238) (b := 236) (f := 370 * q) (t := 0) tA_238 tA_236 (Nat.le_of_ble_eq_true rfl) (Nat.le_of_ble_eq_true rfl) (Nat.le_of_ble_eq_true rfl) (Nat.le_of_ble_eq_true rfl) (by decide) (by rw [lA_238]; omega) (by rw [lA_236]; omega) (wp_af0 ?_))
    refine wp_aload_n dX6_undo_40 rfl ?_
    refine wp_getJ (v := nI q) fX6_31 tA_235 rfl (Nat.le_of_ble_eq_true rfl) dX6_undo_41 (hr3) ?_
    exact wp_iret dX6_undo_44 rfl rfl rfl (by rw [u2_n _ _ _ (by decide), u2_n _ _ _ (by decide), hs]; exact hK q e_q)
  · refine wp_bipush (v := (-5)) dX6_undo_7 (by decide) ?_
    exact wp_iret dX6_undo_9 rfl rfl rfl (hE (by omega))

set_option maxRecDepth 100000 in
set_option maxHeartbeats 4000000 in
theorem s_X6_save {γ : Gm} {l : Launch} {M : Mm} {R : Rm} {K : KT} {np : Nat} {t0 : Int32} {sg : Nat → Int32} (hs : M 236 = sg) (hM : RM R) (hE : ¬ (0 ≤ t0 ∧ t0 ≤ 1) → K (some (.int (-2))) 243 M R) (hK : ∀ t, t < 2 → t0 = nI t → K (some (.int (sg 4))) 243 (u2 (up M 239 (va_cpy sg (M 239) 0 (370 * t) 370)) 240 t 1) R) : CL γ l mX6_save 1 243 243 [.ref 235, .int t0] M R K := by
  show WP γ l mX6_save 1 243 243 0 [some (.ref 235), some (.int t0)] [] 243 M R K
  refine wp_iload_n dX6_save_0 rfl ?_
  refine wp_iconst (v := 0) dX6_save_1 (by decide) ?_
  refine wp_iconst (v := 1) dX6_save_2 (by decide) ?_
  refine wp_cS3 (z := mX6_within) (n' := 243) kX6_39 dX6_save_3 (Nat.le_of_ble_eq_true rfl) (Nat.le_of_ble_eq_true rfl) (Nat.le_of_ble_eq_true rfl) (Nat.le_refl _) (Nat.le_refl _) (s_X6_within (wp_af ?_))
  refine wp_bq_ne (tgt := 12) dX6_save_6 (by decide) (fun h6 => ?_) (fun h6 => ?_)
  · obtain ⟨t, ht, e_t⟩ := slot_in h6
    subst e_t
    refine wp_aload_n dX6_save_12 rfl ?_
    refine wp_getQ fX6_7 tA_235 rfl hM.f0 (by decide) (Nat.le_of_ble_eq_true rfl) dX6_save_13 ?_
    refine wp_iconst (v := 0) dX6_save_16 (by decide) ?_
    refine wp_aload_n dX6_save_17 rfl ?_
    refine wp_getQ fX6_19 tA_235 rfl hM.f4 (by decide) (Nat.le_of_ble_eq_true rfl) dX6_save_18 ?_
    refine wp_sipush (v := 370) dX6_save_21 (by decide) ?_
    refine wp_iload_n dX6_save_24 rfl ?_
    refine wp_imul dX6_save_25 ?_
    refine wp_top (z := nI (370 * t)) (by rw [show (370 : Int32) = nI 370 from rfl, pk_mul]) ?_
    refine wp_cS4 (z := mX6_moves) (n' := 243) kX6_35 dX6_save_26 (Nat.le_of_ble_eq_true rfl) (Nat.le_of_ble_eq_true rfl) (Nat.le_of_ble_eq_true rfl) (Nat.le_refl _) (Nat.le_refl _) (s_X6_moves (a := 236) (b := 239) (f := 0) (t := 370 * t) tA_236 tA_239 (Nat.le_of_ble_eq_true rfl) (Nat.le_of_ble_eq_true rfl) (Nat.le_of_ble_eq_true rfl) (Nat.le_of_ble_eq_true rfl) (by decide) (by rw [lA_236]; omega) (by rw [lA_239]; omega) (wp_af0 ?_))
    refine wp_aload_n dX6_save_29 rfl ?_
    refine wp_getQ fX6_22 tA_235 rfl hM.f5 (by decide) (Nat.le_of_ble_eq_true rfl) dX6_save_30 ?_
    refine wp_iload_n dX6_save_33 rfl ?_
    refine wp_iconst (v := 1) dX6_save_34 (by decide) ?_
    refine wp_iast (i := t) rfl tA_240 (Nat.le_of_ble_eq_true rfl) (by rw [lA_240]; omega) (Nat.le_of_ble_eq_true rfl) dX6_save_35 ?_
    refine wp_aload_n dX6_save_36 rfl ?_
    refine wp_getQ fX6_7 tA_235 rfl hM.f0 (by decide) (Nat.le_of_ble_eq_true rfl) dX6_save_37 ?_
    refine wp_iconst (v := 4) dX6_save_40 (by decide) ?_
    refine wp_iadn (i := 4) rfl tA_236 (Nat.le_of_ble_eq_true rfl) (by rw [lA_236]; omega) (Nat.le_of_ble_eq_true rfl) dX6_save_41 (congrFun (show (u2 (up M 239 (va_cpy (M 236) (M 239) 0 (370 * t) 370)) 240 t 1) 236 = M 236 by rw [u2_n _ _ _ (by decide), up_n _ _ (by decide)]) _) ?_
    exact wp_iret dX6_save_42 rfl rfl rfl (by rw [hs]; exact hK t ht rfl)
  · refine wp_bipush (v := (-2)) dX6_save_9 (by decide) ?_
    exact wp_iret dX6_save_11 rfl rfl rfl (hE h6)

set_option maxRecDepth 100000 in
set_option maxHeartbeats 4000000 in
theorem s_X6_restore {γ : Gm} {l : Launch} {M : Mm} {R : Rm} {K : KT} {rc : Nat} {t0 : Int32} {sg : Nat → Int32} (hs : M 236 = sg) (hM : RM R) (hrc : M 235 3 = nI rc) (h6 : rc ≤ 6) (hE : ¬ (0 ≤ t0 ∧ t0 ≤ 1) → K (some (.int (-2))) 243 M R) (hE2 : ∀ t, t < 2 → t0 = nI t → M 240 t = 0 → K (some (.int (-5))) 243 M R) (hK : ∀ t, t < 2 → t0 = nI t → ¬ M 240 t = 0 → ∀ M1, HP M M1 rc → K (some (.int (va_cpy (M 239) sg (370 * t) 0 370 4))) 243 (up M1 236 (va_cpy (M 239) sg (370 * t) 0 370)) R) : CL γ l mX6_restore 2 243 243 [.ref 235, .int t0] M R K := by
  show WP γ l mX6_restore 2 243 243 0 [some (.ref 235), some (.int t0)] [] 243 M R K
  refine wp_iload_n dX6_restore_0 rfl ?_
  refine wp_iconst (v := 0) dX6_restore_1 (by decide) ?_
  refine wp_iconst (v := 1) dX6_restore_2 (by decide) ?_
  refine wp_cS3 (z := mX6_within) (n' := 243) kX6_39 dX6_restore_3 (Nat.le_of_ble_eq_true rfl) (Nat.le_of_ble_eq_true rfl) (Nat.le_of_ble_eq_true rfl) (Nat.le_refl _) (Nat.le_refl _) (s_X6_within (wp_af ?_))
  refine wp_bq_ne (tgt := 12) dX6_restore_6 (by decide) (fun h6a => ?_) (fun h6a => ?_)
  · obtain ⟨t, ht, e_t⟩ := slot_in h6a
    subst e_t
    refine wp_aload_n dX6_restore_12 rfl ?_
    refine wp_getQ fX6_22 tA_235 rfl hM.f5 (by decide) (Nat.le_of_ble_eq_true rfl) dX6_restore_13 ?_
    refine wp_iload_n dX6_restore_16 rfl ?_
    refine wp_iald (i := t) rfl tA_240 (Nat.le_of_ble_eq_true rfl) (by rw [lA_240]; omega) (Nat.le_of_ble_eq_true rfl) dX6_restore_17 ?_
    refine wp_if_ne (tgt := 24) dX6_restore_18 (by decide) (fun h18 => ?_) (fun h18 => ?_)
    · refine wp_aload_n dX6_restore_24 rfl ?_
      refine wp_cV0 (z := mX6_record) (n' := 243) kX6_84 dX6_restore_25 (Nat.le_of_ble_eq_true rfl) (Nat.le_of_ble_eq_true rfl) tA_235 (Nat.le_of_ble_eq_true rfl) (Nat.le_of_ble_eq_true rfl) (Nat.le_refl _) (Nat.le_refl _) (s_X6_record hM hrc h6 (fun M1 hH => (wp_af0 ?_)))
      have e9 : M1 239 = M 239 := hH.1 _ (by decide) (by decide)
      have e6 : M1 236 = sg := (hH.1 _ (by decide) (by decide)).trans hs
      refine wp_aload_n dX6_restore_28 rfl ?_
      refine wp_getQ fX6_19 tA_235 rfl hM.f4 (by decide) (Nat.le_of_ble_eq_true rfl) dX6_restore_29 ?_
      refine wp_sipush (v := 370) dX6_restore_32 (by decide) ?_
      refine wp_iload_n dX6_restore_35 rfl ?_
      refine wp_imul dX6_restore_36 ?_
      refine wp_top (z := nI (370 * t)) (by rw [show (370 : Int32) = nI 370 from rfl, pk_mul]) ?_
      refine wp_aload_n dX6_restore_37 rfl ?_
      refine wp_getQ fX6_7 tA_235 rfl hM.f0 (by decide) (Nat.le_of_ble_eq_true rfl) dX6_restore_38 ?_
      refine wp_iconst (v := 0) dX6_restore_41 (by decide) ?_
      refine wp_cS4 (z := mX6_moves) (n' := 243) kX6_35 dX6_restore_42 (Nat.le_of_ble_eq_true rfl) (Nat.le_of_ble_eq_true rfl) (Nat.le_of_ble_eq_true rfl) (Nat.le_refl _) (Nat.le_refl _) (s_X6_moves (a := 239) (b := 236) (f := 370 * t) (t := 0) tA_239 tA_236 (Nat.le_of_ble_eq_true rfl) (Nat.le_of_ble_eq_true rfl) (Nat.le_of_ble_eq_true rfl) (Nat.le_of_ble_eq_true rfl) (by decide) (by rw [lA_239]; omega) (by rw [lA_236]; omega) (wp_af0 ?_))
      rw [e9, e6]
      refine wp_aload_n dX6_restore_45 rfl ?_
      refine wp_getQ fX6_7 tA_235 rfl hM.f0 (by decide) (Nat.le_of_ble_eq_true rfl) dX6_restore_46 ?_
      refine wp_iconst (v := 4) dX6_restore_49 (by decide) ?_
      refine wp_iadn (i := 4) rfl tA_236 (Nat.le_of_ble_eq_true rfl) (by rw [lA_236]; omega) (Nat.le_of_ble_eq_true rfl) dX6_restore_50 (congrFun (up_s _ _ _) _) ?_
      exact wp_iret dX6_restore_51 rfl rfl rfl (hK t ht rfl h18 M1 hH)
    · refine wp_bipush (v := (-5)) dX6_restore_21 (by decide) ?_
      exact wp_iret dX6_restore_23 rfl rfl rfl (hE2 t ht rfl h18)
  · refine wp_bipush (v := (-2)) dX6_restore_9 (by decide) ?_
    exact wp_iret dX6_restore_11 rfl rfl rfl (hE h6a)

set_option maxRecDepth 100000 in
set_option maxHeartbeats 4000000 in
theorem s_X6_wipe {γ : Gm} {l : Launch} {M : Mm} {R : Rm} {K : KT} {pl : Nat} (hp : M 235 7 = nI pl) (hK : K (some (.int (nI pl))) 243 (u2 M 235 7 0) R) : CL γ l mX6_wipe 0 243 243 [.ref 235] M R K := by
  show WP γ l mX6_wipe 0 243 243 0 [some (.ref 235), none] [] 243 M R K
  refine wp_aload_n dX6_wipe_0 rfl ?_
  refine wp_getJ (v := nI pl) fX6_162 tA_235 rfl (Nat.le_of_ble_eq_true rfl) dX6_wipe_1 (hp) ?_
  refine wp_istore_n (L' := [some (.ref 235), some (.int (nI pl))]) dX6_wipe_4 (by decide) rfl ?_
  refine wp_aload_n dX6_wipe_5 rfl ?_
  refine wp_iconst (v := 0) dX6_wipe_6 (by decide) ?_
  refine wp_putI pX6_162 tA_235 rfl ⟨rfl, rfl⟩ (Nat.le_of_ble_eq_true rfl) dX6_wipe_7 ?_
  refine wp_iload_n dX6_wipe_10 rfl ?_
  exact wp_iret dX6_wipe_11 rfl rfl rfl (hK)

/-- signs packed in a number, the first one highest: how many, what is left, whether all are fair -/
def by8 (r : Int64) : Int64 := r &&& 255
def sh8 (r : Int64) : Int64 := (r.toUInt64 >>> ((8 : Int32).toInt64.toUInt64 &&& Int64.toUInt64 63)).toInt64
def byF (r : Int64) : Prop := 33 ≤ (by8 r).toInt32 ∧ (by8 r).toInt32 ≤ 126
def rsN (v : Int64) : Nat → Int64
  | 0 => v
  | k + 1 => sh8 (rsN v k)
/-- v gives n signs -/
def PutN (v : Int64) (n : Nat) : Prop := 0 < n ∧ n ≤ 8 ∧ (∀ k, k < n → ¬ lg_cmp (by8 (rsN v k)) 0 = 0) ∧ (∀ k, k < n → byF (rsN v k)) ∧ lg_cmp (rsN v n) 0 = 0
theorem lg_0 {x : Int64} : lg_cmp x 0 = 0 ↔ x = 0 := by
  unfold lg_cmp
  by_cases h1 : x > 0
  · rw [if_pos h1]
    refine ⟨fun h => absurd h (by decide), fun h => ?_⟩
    rw [h] at h1
    exact absurd h1 (by decide)
  · rw [if_neg h1]
    by_cases h2 : x = 0
    · rw [if_pos h2]
      exact ⟨fun _ => h2, fun _ => rfl⟩
    · rw [if_neg h2]
      exact ⟨fun h => absurd h (by decide), fun h => absurd h h2⟩
def byt (v : Int64) (k : Nat) : Int32 := ((v.toUInt64 >>> (((8 : Int32) * nI k).toInt64.toUInt64 &&& Int64.toUInt64 63)).toInt64 &&& 255).toInt32
def ptR (tx : Nat → Int32) (pl n : Nat) (v : Int64) (j : Nat) : Nat → Int32 := fun i => if pl ≤ i ∧ i < pl + j then byt v (n - 1 - (i - pl)) else tx i
theorem ptR_0 (tx : Nat → Int32) (pl n : Nat) (v : Int64) : ptR tx pl n v 0 = tx := by
  funext i
  rw [ptR, if_neg (by omega)]
theorem ptR_s {tx : Nat → Int32} {pl n j k : Nat} {v : Int64} (h : k + j + 1 = n) : up (ptR tx pl n v j) (pl + j) (byt v k) = ptR tx pl n v (j + 1) := by
  funext i
  by_cases hi : i = pl + j
  · subst hi
    rw [up_s, ptR, if_pos (by omega), show n - 1 - (pl + j - pl) = k by omega]
  · rw [up_n _ _ hi, ptR, ptR]
    by_cases h2 : pl ≤ i ∧ i < pl + j
    · rw [if_pos h2, if_pos (by omega)]
    · rw [if_neg h2, if_neg (by omega)]
theorem PutN.only {v : Int64} {q m : Nat} (h : PutN v q) (hm : m ≤ 8) (hz : ∀ k, k < m → ¬ lg_cmp (by8 (rsN v k)) 0 = 0) (he : m = 8 ∨ lg_cmp (by8 (rsN v m)) 0 = 0) : q = m := by
  obtain ⟨q1, q2, q3, q4, q5⟩ := h
  by_cases hlt : q < m
  · exfalso
    apply hz q hlt
    rw [lg_0.mp q5]
    decide
  · by_cases hgt : m < q
    · exfalso
      rcases he with h | h
      · omega
      · exact q3 m hgt h
    · omega
set_option maxRecDepth 100000 in
set_option maxHeartbeats 4000000 in
theorem s_X6_put {γ : Gm} {l : Launch} {M : Mm} {R : Rm} {K : KT} {pl : Nat} {v : Int64} (hM : RM R) (hp : M 235 7 = nI pl) (hp80 : pl ≤ 80) (hE : (∀ n, ¬ PutN v n) → K (some (.int (-2))) 243 M R) (hE2 : ∀ n, PutN v n → ¬ pl + n ≤ 80 → K (some (.int (-4))) 243 M R) (hK : ∀ n, PutN v n → pl + n ≤ 80 → K (some (.int (nI (pl + n)))) 243 (up (u2 M 235 7 (nI (pl + n))) 241 (ptR (M 241) pl n v n)) R) : CL γ l mX6_put 1 243 243 [.ref 235, .long v] M R K := by
  show WP γ l mX6_put 1 243 243 0 [some (.ref 235), some (.long v), none, none, none, none, none, none] [] 243 M R K
  have fill : ∀ n, PutN v n → pl + n ≤ 80 → ∀ (k j : Nat) (x : Int32) (t4 t5 t6 : Option Value), k + j = n → x = nI k - 1 → WP γ l mX6_put 1 243 243 105 [some (.ref 235), some (.long v), none, some (.int (nI n)), t4, t5, t6, some (.int x)] [] 243 (up (u2 M 235 7 (nI (pl + j))) 241 (ptR (M 241) pl n v j)) R K := by
    intro n0 hn hpn k
    induction k with
    | zero =>
      intro j x t4 t5 t6 hj hx
      obtain rfl : n0 = j := by omega
      subst hx
      refine wp_drop [some (.ref 235), some (.long v), none, some (.int (nI n0)), none, none, none, some (.int (nI 0 - 1))] (by simp [leL]) ?_
      refine wp_iload dX6_put_105 rfl ?_
      refine wp_if_lt (tgt := 147) dX6_put_107 (by decide) (fun h107 => ?_) (fun h107 => absurd (by decide) h107)
      refine wp_aload_n dX6_put_147 rfl ?_
      refine wp_getJ (v := nI (pl + n0)) fX6_162 tA_235 rfl (Nat.le_of_ble_eq_true rfl) dX6_put_148 ((by rw [up_n _ _ (by decide), u2_s, up_s] : _ = nI (pl + n0))) ?_
      exact wp_iret dX6_put_151 rfl rfl rfl (hK n0 hn hpn)
    | succ k ih =>
      intro j x t4 t5 t6 hj hx
      rw [nI_m1] at hx
      subst hx
      refine wp_drop [some (.ref 235), some (.long v), none, some (.int (nI n0)), none, none, none, some (.int (nI k))] (by simp [leL]) ?_
      have hpj : (up (u2 M 235 7 (nI (pl + j))) 241 (ptR (M 241) pl n0 v j)) 235 7 = nI (pl + j) := by rw [up_n _ _ (by decide), u2_s, up_s]
      have hpj2 : (up (up (u2 M 235 7 (nI (pl + j))) 241 (ptR (M 241) pl n0 v j)) 241 (up (ptR (M 241) pl n0 v j) (pl + j) (byt v k))) 235 7 = nI (pl + j) := by rw [up_n _ _ (by decide)]; exact hpj
      refine wp_iload dX6_put_105 rfl ?_
      refine wp_ifN_lt (a := k) (tgt := 147) dX6_put_107 (by decide) rfl (by omega) ?_
      refine wp_aload_n dX6_put_110 rfl ?_
      refine wp_getQ fX6_25 tA_235 rfl hM.f6 (by decide) (Nat.le_of_ble_eq_true rfl) dX6_put_111 ?_
      refine wp_aload_n dX6_put_114 rfl ?_
      refine wp_getJ (v := nI (pl + j)) fX6_162 tA_235 rfl (Nat.le_of_ble_eq_true rfl) dX6_put_115 (hpj) ?_
      refine wp_lload_n dX6_put_118 rfl ?_
      refine wp_bipush (v := 8) dX6_put_119 (by decide) ?_
      refine wp_iload dX6_put_121 rfl ?_
      refine wp_imul dX6_put_123 ?_
      refine wp_lushr dX6_put_124 ?_
      refine wp_ldc2 (v := 255) dX6_put_125 q824 ?_
      refine wp_land dX6_put_128 ?_
      refine wp_l2i dX6_put_129 ?_
      refine wp_iast (i := pl + j) rfl tA_241 (Nat.le_of_ble_eq_true rfl) (by rw [lA_241]; omega) (Nat.le_of_ble_eq_true rfl) dX6_put_130 ?_
      refine wp_mem (M' := up (up (u2 M 235 7 (nI (pl + j))) 241 (ptR (M 241) pl n0 v j)) 241 (up (ptR (M 241) pl n0 v j) (pl + j) (byt v k))) (by rw [u2_eq, up_s]; rfl) ?_
      refine wp_aload_n dX6_put_131 rfl ?_
      refine wp_dup dX6_put_132 rfl ?_
      refine wp_getJ (v := nI (pl + j)) fX6_162 tA_235 rfl (Nat.le_of_ble_eq_true rfl) dX6_put_133 (hpj2) ?_
      refine wp_iconst (v := 1) dX6_put_136 (by decide) ?_
      refine wp_iadd dX6_put_137 ?_
      refine wp_putI pX6_162 tA_235 rfl ⟨rfl, rfl⟩ (Nat.le_of_ble_eq_true rfl) dX6_put_138 ?_
      refine wp_mem (M' := up (u2 M 235 7 (nI (pl + (j + 1)))) 241 (ptR (M 241) pl n0 v (j + 1))) ?_ ?_
      · rw [ptR_s (by omega), up_up]
        funext a
        by_cases h1 : a = 235
        · subst h1
          rw [u2_s, up_n _ _ (by decide), up_n _ _ (by decide), u2_s, u2_s, up_up, nI_1]
          rfl
        · by_cases h2 : a = 241
          · subst h2
            rw [u2_n _ _ _ (by decide), up_s, up_s]
          · rw [u2_n _ _ _ h1, up_n _ _ h2, up_n _ _ h2, u2_n _ _ _ h1, u2_n _ _ _ h1]
      refine wp_iinc (v := nI k - 1) (L' := [some (.ref 235), some (.long v), none, some (.int (nI n0)), none, none, none, some (.int (nI k - 1))]) dX6_put_141 (by decide) rfl (by rw [Int32.sub_eq_add_neg]; rfl) rfl ?_
      refine wp_goto (tgt := 105) dX6_put_144 (by decide) ?_
      exact ih (j + 1) _ _ _ _ (by omega) rfl
  have tell : ∀ (n0 : Nat) (g : Int32), n0 ≤ 8 → (∀ k, k < n0 → ¬ lg_cmp (by8 (rsN v k)) 0 = 0) → (¬ g = 0 ↔ ∀ k, k < n0 → byF (rsN v k)) → (n0 = 8 ∨ lg_cmp (by8 (rsN v n0)) 0 = 0) → WP γ l mX6_put 1 243 243 67 [some (.ref 235), some (.long v), none, some (.int (nI n0)), some (.long (rsN v n0)), none, some (.int g), none] [] 243 M R K := by
    intro n0 g h8 hz hg hend
    refine wp_iload_n dX6_put_67 rfl ?_
    refine wp_ifN_eq (a := n0) (tgt := 83) dX6_put_68 (by decide) rfl (by omega) (fun h68 => ?_) (fun h68 => ?_)
    · refine wp_bipush (v := (-2)) dX6_put_83 (by decide) ?_
      exact wp_iret dX6_put_85 rfl rfl rfl (hE (fun q hq => by have e := hq.only h8 hz hend; subst e; first | exact absurd hq.1 (by omega) | exact hg.mpr hq.2.2.2.1 h73 | exact h80 hq.2.2.2.2))
    · refine wp_iload dX6_put_71 rfl ?_
      refine wp_if_eq (tgt := 83) dX6_put_73 (by decide) (fun h73 => ?_) (fun h73 => ?_)
      · refine wp_bipush (v := (-2)) dX6_put_83 (by decide) ?_
        exact wp_iret dX6_put_85 rfl rfl rfl (hE (fun q hq => by have e := hq.only h8 hz hend; subst e; first | exact absurd hq.1 (by omega) | exact hg.mpr hq.2.2.2.1 h73 | exact h80 hq.2.2.2.2))
      · refine wp_lload dX6_put_76 rfl ?_
        refine wp_lconst (v := 0) dX6_put_78 rfl ?_
        refine wp_lcmp dX6_put_79 ?_
        refine wp_if_eq (tgt := 86) dX6_put_80 (by decide) (fun h80 => ?_) (fun h80 => ?_)
        · refine wp_aload_n dX6_put_86 rfl ?_
          refine wp_getJ (v := nI pl) fX6_162 tA_235 rfl (Nat.le_of_ble_eq_true rfl) dX6_put_87 (hp) ?_
          refine wp_iload_n dX6_put_90 rfl ?_
          refine wp_iadd dX6_put_91 ?_
          refine wp_bipush (v := 80) dX6_put_92 (by decide) ?_
          refine wp_icN_le (a := (pl + n0)) (b := 80) (tgt := 100) dX6_put_94 (by decide) (ix_add rfl rfl) rfl (by omega) (by omega) (fun h94 => ?_) (fun h94 => ?_)
          · refine wp_iload_n dX6_put_100 rfl ?_
            refine wp_iconst (v := 1) dX6_put_101 (by decide) ?_
            refine wp_isub dX6_put_102 ?_
            refine wp_istore (L' := [some (.ref 235), some (.long _), none, some (.int (nI n0)), some (.long _), none, some (.int g), some (.int _)]) dX6_put_103 (by decide) rfl ?_
            refine wp_mem (M' := up (u2 M 235 7 (nI (pl + 0))) 241 (ptR (M 241) pl n0 v 0)) ?_ (fill n0 ⟨by omega, h8, hz, hg.mp h73, h80⟩ (by omega) n0 0 _ _ _ _ rfl rfl)
            rw [ptR_0, Nat.add_zero, u2_eq, ← hp, up_eta, up_eta, up_eta]
          · refine wp_bipush (v := (-4)) dX6_put_97 (by decide) ?_
            exact wp_iret dX6_put_99 rfl rfl rfl (hE2 n0 ⟨by omega, h8, hz, hg.mp h73, h80⟩ (by omega))
        · refine wp_bipush (v := (-2)) dX6_put_83 (by decide) ?_
          exact wp_iret dX6_put_85 rfl rfl rfl (hE (fun q hq => by have e := hq.only h8 hz hend; subst e; first | exact absurd hq.1 (by omega) | exact hg.mpr hq.2.2.2.1 h73 | exact h80 hq.2.2.2.2))
  have loop : ∀ (f n0 : Nat) (g : Int32), f + n0 = 8 → (∀ k, k < n0 → ¬ lg_cmp (by8 (rsN v k)) 0 = 0) → (¬ g = 0 ↔ ∀ k, k < n0 → byF (rsN v k)) → WP γ l mX6_put 1 243 243 8 [some (.ref 235), some (.long v), none, some (.int (nI n0)), some (.long (rsN v n0)), none, some (.int g), none] [] 243 M R K := by
    intro f
    induction f with
    | zero =>
      intro n0 g hf hz hg
      refine wp_iload_n dX6_put_8 rfl ?_
      refine wp_bipush (v := 8) dX6_put_9 (by decide) ?_
      refine wp_icN_ge (a := n0) (b := 8) (tgt := 67) dX6_put_11 (by decide) rfl rfl (by omega) (by omega) (fun h11 => ?_) (fun h11 => absurd h11 (by omega))
      exact tell n0 g (by omega) hz hg (Or.inl (by omega))
    | succ f ih =>
      intro n0 g hf hz hg
      have more : ∀ x : Int32, ¬ lg_cmp (by8 (rsN v n0)) 0 = 0 → (¬ x = 0 ↔ (¬ g = 0 ∧ byF (rsN v n0))) → WP γ l mX6_put 1 243 243 8 [some (.ref 235), some (.long v), none, some (.int (nI (n0 + 1))), some (.long (rsN v (n0 + 1))), none, some (.int x), none] [] 243 M R K := by
        intro x hz2 hx
        refine ih (n0 + 1) x (by omega) (fun k hk => ?_) ?_
        · by_cases e : k = n0
          · subst e
            exact hz2
          · exact hz k (by omega)
        · rw [hx, hg]
          constructor
          · intro ⟨h1, h2⟩ k hk
            by_cases e : k = n0
            · subst e
              exact h2
            · exact h1 k (by omega)
          · intro h
            exact ⟨fun k hk => h k (by omega), h n0 (by omega)⟩
      refine wp_iload_n dX6_put_8 rfl ?_
      refine wp_bipush (v := 8) dX6_put_9 (by decide) ?_
      refine wp_icN_ge (a := n0) (b := 8) (tgt := 67) dX6_put_11 (by decide) rfl rfl (by omega) (by omega) (fun h11 => absurd h11 (by omega)) (fun h11 => ?_)
      refine wp_lload dX6_put_14 rfl ?_
      refine wp_ldc2 (v := 255) dX6_put_16 q824 ?_
      refine wp_land dX6_put_19 ?_
      refine wp_lconst (v := 0) dX6_put_20 rfl ?_
      refine wp_lcmp dX6_put_21 ?_
      refine wp_if_eq (tgt := 67) dX6_put_22 (by decide) (fun h22 => ?_) (fun h22 => ?_)
      · exact tell n0 g (by omega) hz hg (Or.inr h22)
      · refine wp_iload dX6_put_25 rfl ?_
        refine wp_if_eq (tgt := 51) dX6_put_27 (by decide) (fun h27 => ?_) (fun h27 => ?_)
        · refine wp_iconst (v := 0) dX6_put_51 (by decide) ?_
          refine wp_istore (L' := [some (.ref 235), some (.long _), none, some (.int (nI n0)), some (.long _), none, some (.int _), none]) dX6_put_52 (by decide) rfl ?_
          refine wp_lload dX6_put_54 rfl ?_
          refine wp_bipush (v := 8) dX6_put_56 (by decide) ?_
          refine wp_lushr dX6_put_58 ?_
          refine wp_lstore (L' := [some (.ref 235), some (.long _), none, some (.int (nI n0)), some (.long _), none, some (.int _), none]) dX6_put_59 (by decide) rfl ?_
          refine wp_iinc (v := nI (n0 + 1)) (L' := [some (.ref 235), some (.long _), none, some (.int (nI (n0 + 1))), some (.long _), none, some (.int _), none]) dX6_put_61 (by decide) rfl (inc_1 _) rfl ?_
          refine wp_goto (tgt := 8) dX6_put_64 (by decide) ?_
          exact more _ h22 (by first | exact ⟨fun _ => ⟨h27, h44⟩, fun _ => by decide⟩ | exact ⟨fun h => absurd rfl h, fun h => absurd h.2 h44⟩ | exact ⟨fun h => absurd rfl h, fun h => absurd h27 h.1⟩)
        · refine wp_lload dX6_put_30 rfl ?_
          refine wp_ldc2 (v := 255) dX6_put_32 q824 ?_
          refine wp_land dX6_put_35 ?_
          refine wp_l2i dX6_put_36 ?_
          refine wp_bipush (v := 33) dX6_put_37 (by decide) ?_
          refine wp_bipush (v := 126) dX6_put_39 (by decide) ?_
          refine wp_cS3 (z := mX6_within) (n' := 243) kX6_39 dX6_put_41 (Nat.le_of_ble_eq_true rfl) (Nat.le_of_ble_eq_true rfl) (Nat.le_of_ble_eq_true rfl) (Nat.le_refl _) (Nat.le_refl _) (s_X6_within (wp_af ?_))
          refine wp_bq_eq (tgt := 51) dX6_put_44 (by decide) (fun h44 => ?_) (fun h44 => ?_)
          · refine wp_iconst (v := 0) dX6_put_51 (by decide) ?_
            refine wp_istore (L' := [some (.ref 235), some (.long _), none, some (.int (nI n0)), some (.long _), none, some (.int _), none]) dX6_put_52 (by decide) rfl ?_
            refine wp_lload dX6_put_54 rfl ?_
            refine wp_bipush (v := 8) dX6_put_56 (by decide) ?_
            refine wp_lushr dX6_put_58 ?_
            refine wp_lstore (L' := [some (.ref 235), some (.long _), none, some (.int (nI n0)), some (.long _), none, some (.int _), none]) dX6_put_59 (by decide) rfl ?_
            refine wp_iinc (v := nI (n0 + 1)) (L' := [some (.ref 235), some (.long _), none, some (.int (nI (n0 + 1))), some (.long _), none, some (.int _), none]) dX6_put_61 (by decide) rfl (inc_1 _) rfl ?_
            refine wp_goto (tgt := 8) dX6_put_64 (by decide) ?_
            exact more _ h22 (by first | exact ⟨fun _ => ⟨h27, h44⟩, fun _ => by decide⟩ | exact ⟨fun h => absurd rfl h, fun h => absurd h.2 h44⟩ | exact ⟨fun h => absurd rfl h, fun h => absurd h27 h.1⟩)
          · refine wp_iconst (v := 1) dX6_put_47 (by decide) ?_
            refine wp_goto (tgt := 52) dX6_put_48 (by decide) ?_
            refine wp_istore (L' := [some (.ref 235), some (.long _), none, some (.int (nI n0)), some (.long _), none, some (.int _), none]) dX6_put_52 (by decide) rfl ?_
            refine wp_lload dX6_put_54 rfl ?_
            refine wp_bipush (v := 8) dX6_put_56 (by decide) ?_
            refine wp_lushr dX6_put_58 ?_
            refine wp_lstore (L' := [some (.ref 235), some (.long _), none, some (.int (nI n0)), some (.long _), none, some (.int _), none]) dX6_put_59 (by decide) rfl ?_
            refine wp_iinc (v := nI (n0 + 1)) (L' := [some (.ref 235), some (.long _), none, some (.int (nI (n0 + 1))), some (.long _), none, some (.int _), none]) dX6_put_61 (by decide) rfl (inc_1 _) rfl ?_
            refine wp_goto (tgt := 8) dX6_put_64 (by decide) ?_
            exact more _ h22 (by first | exact ⟨fun _ => ⟨h27, h44⟩, fun _ => by decide⟩ | exact ⟨fun h => absurd rfl h, fun h => absurd h.2 h44⟩ | exact ⟨fun h => absurd rfl h, fun h => absurd h27 h.1⟩)
  refine wp_iconst (v := 0) dX6_put_0 (by decide) ?_
  refine wp_istore_n (L' := [some (.ref 235), some (.long _), none, some (.int _), none, none, none, none]) dX6_put_1 (by decide) rfl ?_
  refine wp_lload_n dX6_put_2 rfl ?_
  refine wp_lstore (L' := [some (.ref 235), some (.long _), none, some (.int _), some (.long _), none, none, none]) dX6_put_3 (by decide) rfl ?_
  refine wp_iconst (v := 1) dX6_put_5 (by decide) ?_
  refine wp_istore (L' := [some (.ref 235), some (.long _), none, some (.int _), some (.long _), none, some (.int _), none]) dX6_put_6 (by decide) rfl ?_
  exact loop 8 0 1 rfl (fun k hk => absurd hk (by omega)) ⟨fun _ k hk => absurd hk (by omega), fun _ => by decide⟩

