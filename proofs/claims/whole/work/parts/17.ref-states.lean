/-! THE REFERENCE: steps; states moved and recorded -/
set_option maxRecDepth 100000 in
set_option maxHeartbeats 4000000 in
theorem s_X6_step {γ : Gm} {l : Launch} {M : Mm} {R : Rm} {K : KT} {np ng : Nat} {sg : Nat → Int32} (hs : M 236 = sg) (hM : RM R) (ho : Ok0 sg np ng) (hK : K (some (.int (pcN sg np))) 243 (up M 236 (stF np ng sg)) R) : CL γ l mX6_step 3 243 243 [.ref 235] M R K := by
  show WP γ l mX6_step 3 243 243 0 [some (.ref 235), none] [] 243 M R K
  refine wp_aload_n dX6_step_0 rfl ?_
  refine wp_cV0 (z := mX6_pushAll) (n' := 243) kX6_64 dX6_step_1 (Nat.le_of_ble_eq_true rfl) (Nat.le_of_ble_eq_true rfl) tA_235 (Nat.le_of_ble_eq_true rfl) (Nat.le_of_ble_eq_true rfl) (Nat.le_refl _) (Nat.le_refl _) (s_X6_pushAll hs hM ho.1.1 ho.1.2 ho.pds (wp_af ?_))
  refine wp_istore_n (L' := [some (.ref 235), some (.int _)]) dX6_step_4 (by decide) rfl ?_
  refine wp_aload_n dX6_step_5 rfl ?_
  refine wp_cV0 (z := mX6_swing) (n' := 243) kX6_68 dX6_step_6 (Nat.le_of_ble_eq_true rfl) (Nat.le_of_ble_eq_true rfl) tA_235 (Nat.le_of_ble_eq_true rfl) (Nat.le_of_ble_eq_true rfl) (Nat.le_refl _) (Nat.le_refl _) (s_X6_swing (up_s _ _ _) hM (wp_af0 ?_))
  refine wp_mem (up_up _ _ _ _) ?_
  refine wp_aload_n dX6_step_9 rfl ?_
  refine wp_cV0 (z := mX6_beach) (n' := 243) kX6_71 dX6_step_10 (Nat.le_of_ble_eq_true rfl) (Nat.le_of_ble_eq_true rfl) tA_235 (Nat.le_of_ble_eq_true rfl) (Nat.le_of_ble_eq_true rfl) (Nat.le_refl _) (Nat.le_refl _) (s_X6_beach (up_s _ _ _) hM (wp_af0 ?_))
  refine wp_mem (up_up _ _ _ _) ?_
  refine wp_aload_n dX6_step_13 rfl ?_
  refine wp_getQ fX6_7 tA_235 rfl hM.f0 (by decide) (Nat.le_of_ble_eq_true rfl) dX6_step_14 ?_
  refine wp_iconst (v := 3) dX6_step_17 (by decide) ?_
  refine wp_dup2 dX6_step_18 rfl rfl ?_
  refine wp_iadn (i := 3) rfl tA_236 (Nat.le_of_ble_eq_true rfl) (by rw [lA_236]; omega) (Nat.le_of_ble_eq_true rfl) dX6_step_19 (congrFun (up_s _ _ _) _) ?_
  refine wp_iconst (v := 1) dX6_step_20 (by decide) ?_
  refine wp_iadd dX6_step_21 ?_
  refine wp_iast (i := 3) rfl tA_236 (Nat.le_of_ble_eq_true rfl) (by rw [lA_236]; omega) (Nat.le_of_ble_eq_true rfl) dX6_step_22 ?_
  refine wp_mem (u2_up _ _ _ _ _) ?_
  refine wp_aload_n dX6_step_23 rfl ?_
  refine wp_cV0 (z := mX6_note) (n' := 243) kX6_74 dX6_step_24 (Nat.le_of_ble_eq_true rfl) (Nat.le_of_ble_eq_true rfl) tA_235 (Nat.le_of_ble_eq_true rfl) (Nat.le_of_ble_eq_true rfl) (Nat.le_refl _) (Nat.le_refl _) (s_X6_note (up_s _ _ _) hM ho.kstM.1.2.1.1 ho.kstM.1.2.1.2 ho.kstM.1.ggs (wp_af0 ?_))
  refine wp_mem (up_up _ _ _ _) ?_
  refine wp_iload_n dX6_step_27 rfl ?_
  exact wp_iret dX6_step_28 rfl rfl rfl (hK)

set_option maxRecDepth 100000 in
set_option maxHeartbeats 4000000 in
theorem s_X6_passes {γ : Gm} {l : Launch} {M : Mm} {R : Rm} {K : KT} {np ng m : Nat} {sg : Nat → Int32} (hs : M 236 = sg) (hM : RM R) (hm : m < 1000) (ho : Ok0 sg np ng) (hK : K (some (.int (psC np ng sg m))) 243 (up M 236 (psF np ng sg m)) R) : CL γ l mX6_passes 4 243 243 [.ref 235, .int (nI m)] M R K := by
  show WP γ l mX6_passes 4 243 243 0 [some (.ref 235), some (.int (nI m)), none, none] [] 243 M R K
  have loop : ∀ (f i : Nat) (st : Int32) (ro : Nat → Int32), st = psC np ng sg i → ro = psF np ng sg i → m - i < f → i ≤ m → WP γ l mX6_passes 4 243 243 4 [some (.ref 235), some (.int (nI m)), some (.int st), some (.int (nI i))] [] 243 (up M 236 ro) R K := by
    intro f
    induction f with
    | zero => intro i st ro _ _ h; omega
    | succ f ih =>
      intro i st ro hst hro hf hi
      have ho2 : Ok0 ro np ng := by rw [hro]; exact ho.kpsF i
      refine wp_iload_n dX6_passes_4 rfl ?_
      refine wp_iload_n dX6_passes_5 rfl ?_
      refine wp_icN_ge (a := i) (b := m) (tgt := 22) dX6_passes_6 (by decide) rfl rfl (by omega) (by omega) (fun h6 => ?_) (fun h6 => ?_)
      · refine wp_iload_n dX6_passes_22 rfl ?_
        exact wp_iret dX6_passes_23 rfl rfl rfl (by rw [hst, hro, show i = m by omega]; exact hK)
      · refine wp_iload_n dX6_passes_9 rfl ?_
        refine wp_aload_n dX6_passes_10 rfl ?_
        refine wp_cV0 (z := mX6_step) (n' := 243) kX6_77 dX6_passes_11 (Nat.le_of_ble_eq_true rfl) (Nat.le_of_ble_eq_true rfl) tA_235 (Nat.le_of_ble_eq_true rfl) (Nat.le_of_ble_eq_true rfl) (Nat.le_refl _) (Nat.le_refl _) (s_X6_step (up_s _ _ _) hM ho2 (wp_af ?_))
        refine wp_mem (up_up _ _ _ _) ?_
        refine wp_iadd dX6_passes_14 ?_
        refine wp_istore_n (L' := [some (.ref 235), some (.int (nI m)), some (.int _), some (.int (nI i))]) dX6_passes_15 (by decide) rfl ?_
        refine wp_iinc (v := nI (i + 1)) (L' := [some (.ref 235), some (.int (nI m)), some (.int _), some (.int (nI (i + 1)))]) dX6_passes_16 (by decide) rfl (inc_1 _) rfl ?_
        refine wp_goto (tgt := 4) dX6_passes_19 (by decide) ?_
        refine ih (i + 1) _ _ ?_ ?_ (by omega) (by omega)
        · rw [hst, hro]
          rfl
        · rw [hro]
          rfl
  refine wp_iconst (v := 0) dX6_passes_0 (by decide) ?_
  refine wp_istore_n (L' := [some (.ref 235), some (.int (nI m)), some (.int _), none]) dX6_passes_1 (by decide) rfl ?_
  refine wp_iconst (v := 0) dX6_passes_2 (by decide) ?_
  refine wp_istore_n (L' := [some (.ref 235), some (.int (nI m)), some (.int _), some (.int _)]) dX6_passes_3 (by decide) rfl ?_
  refine wp_mem (M' := up M 236 sg) (by rw [← hs, up_eta]) ?_
  exact loop (m + 1) 0 _ _ rfl rfl (by omega) (by omega)

set_option maxRecDepth 100000 in
set_option maxHeartbeats 4000000 in
theorem s_X6_moves {γ : Gm} {l : Launch} {M : Mm} {R : Rm} {K : KT} {a b f t : Nat} (ta : tg a = 10) (tb : tg b = 10) (h8a : 8 ≤ a) (h8b : 8 ≤ b) (hna : a < 243) (hnb : b < 243) (hab : a ≠ b) (hf : f + 370 ≤ ln a) (ht : t + 370 ≤ ln b) (hK : K none 243 (up M b (va_cpy (M a) (M b) f t 370)) R) : CL γ l mX6_moves 0 243 243 [.ref a, .int (nI f), .ref b, .int (nI t)] M R K := by
  show WP γ l mX6_moves 0 243 243 0 [some (.ref a), some (.int (nI f)), some (.ref b), some (.int (nI t)), none] [] 243 M R K
  have la := ln_le a
  have lb := ln_le b
  have loop : ∀ (q k : Nat) (ro : Nat → Int32), ro = va_cpy (M a) (M b) f t k → 370 - k < q → k ≤ 370 → WP γ l mX6_moves 0 243 243 3 [some (.ref a), some (.int (nI f)), some (.ref b), some (.int (nI t)), some (.int (nI k))] [] 243 (up M b ro) R K := by
    intro q
    induction q with
    | zero => intro k ro _ h; omega
    | succ q ih =>
      intro k ro hro hq hk
      refine wp_iload dX6_moves_3 rfl ?_
      refine wp_sipush (v := 370) dX6_moves_5 (by decide) ?_
      refine wp_icN_ge (a := k) (b := 370) (tgt := 29) dX6_moves_8 (by decide) rfl rfl (by omega) (by omega) (fun h8 => ?_) (fun h8 => ?_)
      · exact wp_vret dX6_moves_29 rfl rfl (by rw [hro, show k = 370 by omega]; exact hK)
      · refine wp_aload_n dX6_moves_11 rfl ?_
        refine wp_iload_n dX6_moves_12 rfl ?_
        refine wp_iload dX6_moves_13 rfl ?_
        refine wp_iadd dX6_moves_15 ?_
        refine wp_aload_n dX6_moves_16 rfl ?_
        refine wp_iload_n dX6_moves_17 rfl ?_
        refine wp_iload dX6_moves_18 rfl ?_
        refine wp_iadd dX6_moves_20 ?_
        refine wp_iadn (i := (f + k)) (ix_add rfl rfl) ta h8a (by omega) hna dX6_moves_21 (congrFun (up_n _ _ hab) _) ?_
        refine wp_iast (i := (t + k)) (ix_add rfl rfl) tb h8b (by omega) hnb dX6_moves_22 ?_
        refine wp_mem (u2_up _ _ _ _ _) ?_
        refine wp_iinc (v := nI (k + 1)) (L' := [some (.ref a), some (.int (nI f)), some (.ref b), some (.int (nI t)), some (.int (nI (k + 1)))]) dX6_moves_23 (by decide) rfl (inc_1 _) rfl ?_
        refine wp_goto (tgt := 3) dX6_moves_26 (by decide) ?_
        refine ih (k + 1) _ ?_ (by omega) (by omega)
        rw [hro]
        funext j
        by_cases hj : j = t + k
        · subst hj
          rw [up_s, va_cpy, if_pos (by omega), Nat.add_sub_cancel_left]
        · rw [up_n _ _ hj]
          by_cases h2 : t ≤ j ∧ j < t + k
          · rw [va_cpy, va_cpy, if_pos h2, if_pos (by omega)]
          · rw [va_cpy, va_cpy, if_neg h2, if_neg (by omega)]
  refine wp_iconst (v := 0) dX6_moves_0 (by decide) ?_
  refine wp_istore (L' := [some (.ref a), some (.int (nI f)), some (.ref b), some (.int (nI t)), some (.int _)]) dX6_moves_1 (by decide) rfl ?_
  refine wp_mem (M' := up M b (va_cpy (M a) (M b) f t 0)) ?_ ?_
  · rw [show va_cpy (M a) (M b) f t 0 = M b from by funext j; rw [va_cpy, if_neg (by omega)], up_eta]
  exact loop 371 0 _ rfl (by omega) (by omega)

/-- a state is recorded: row 238 holds the history, place 3 of row 235 how many there are -/
def HP (M M' : Mm) (rc : Nat) : Prop := (∀ a, a ≠ 235 → a ≠ 238 → M' a = M a) ∧ (∀ k, k ≠ 3 → M' 235 k = M 235 k) ∧ M' 235 3 = nI (if rc = 6 then 6 else rc + 1) ∧ (∀ i j, j < 370 → i < (if rc = 6 then 5 else rc) → M' 238 (370 * i + j) = M 238 (370 * (if rc = 6 then i + 1 else i) + j)) ∧ ∀ j, j < 370 → M' 238 (370 * (if rc = 6 then 5 else rc) + j) = M 236 j
def hsh (h : Nat → Int32) (k : Nat) : Nat → Int32 := fun j => if j < k then h (j + 370) else h j
theorem hsh_s (h : Nat → Int32) (k : Nat) : up (hsh h k) k (hsh h k (k + 370)) = hsh h (k + 1) := by
  funext j
  by_cases hj : j = k
  · subst hj
    rw [up_s, hsh, hsh, if_neg (by omega), if_pos (by omega)]
  · rw [up_n _ _ hj]
    by_cases h2 : j < k
    · rw [hsh, hsh, if_pos h2, if_pos (by omega)]
    · rw [hsh, hsh, if_neg h2, if_neg (by omega)]
set_option maxRecDepth 100000 in
set_option maxHeartbeats 4000000 in
theorem s_X6_record {γ : Gm} {l : Launch} {M : Mm} {R : Rm} {K : KT} {rc : Nat} (hM : RM R) (hrc : M 235 3 = nI rc) (h6r : rc ≤ 6) (hK : ∀ M1, HP M M1 rc → K none 243 M1 R) : CL γ l mX6_record 1 243 243 [.ref 235] M R K := by
  show WP γ l mX6_record 1 243 243 0 [some (.ref 235), none] [] 243 M R K
  have tail : ∀ (M1 : Mm) (q : Nat), q < 6 → M1 235 3 = nI q → HP M (up (up M1 238 (va_cpy (M1 236) (M1 238) 0 (q * 370) 370)) 235 (up (M1 235) 3 (nI (q + 1)))) rc → WP γ l mX6_record 1 243 243 50 [some (.ref 235), none] [] 243 M1 R K := by
    intro M1 q hq6 hq hHP
    refine wp_aload_n dX6_record_50 rfl ?_
    refine wp_getQ fX6_7 tA_235 rfl hM.f0 (by decide) (Nat.le_of_ble_eq_true rfl) dX6_record_51 ?_
    refine wp_iconst (v := 0) dX6_record_54 (by decide) ?_
    refine wp_aload_n dX6_record_55 rfl ?_
    refine wp_getQ fX6_16 tA_235 rfl hM.f2 (by decide) (Nat.le_of_ble_eq_true rfl) dX6_record_56 ?_
    refine wp_aload_n dX6_record_59 rfl ?_
    refine wp_getJ fX6_31 tA_235 rfl (Nat.le_of_ble_eq_true rfl) dX6_record_60 (hq) ?_
    refine wp_sipush (v := 370) dX6_record_63 (by decide) ?_
    refine wp_imul dX6_record_66 ?_
    refine wp_top (ix_mul rfl rfl) ?_
    refine wp_cS4 (z := mX6_moves) (n' := 243) kX6_35 dX6_record_67 (Nat.le_of_ble_eq_true rfl) (Nat.le_of_ble_eq_true rfl) (Nat.le_of_ble_eq_true rfl) (Nat.le_refl _) (Nat.le_refl _) (s_X6_moves (a := 236) (b := 238) (f := 0) (t := (q * 370)) tA_236 tA_238 (Nat.le_of_ble_eq_true rfl) (Nat.le_of_ble_eq_true rfl) (Nat.le_of_ble_eq_true rfl) (Nat.le_of_ble_eq_true rfl) (by decide) (by rw [lA_236]; omega) (by rw [lA_238]; omega) (wp_af0 ?_))
    refine wp_aload_n dX6_record_70 rfl ?_
    refine wp_dup dX6_record_71 rfl ?_
    refine wp_getJ fX6_31 tA_235 rfl (Nat.le_of_ble_eq_true rfl) dX6_record_72 ((congrFun (up_n _ _ (by decide)) _).trans hq) ?_
    refine wp_iconst (v := 1) dX6_record_75 (by decide) ?_
    refine wp_iadd dX6_record_76 ?_
    refine wp_top (nI_1 _) ?_
    refine wp_putI pX6_31 tA_235 rfl ⟨rfl, rfl⟩ (Nat.le_of_ble_eq_true rfl) dX6_record_77 ?_
    exact wp_vret dX6_record_80 rfl rfl (by rw [u2_eq, up_n _ _ (by decide)]; exact hK _ hHP)
  refine wp_aload_n dX6_record_0 rfl ?_
  refine wp_getJ fX6_31 tA_235 rfl (Nat.le_of_ble_eq_true rfl) dX6_record_1 (hrc) ?_
  refine wp_bipush (v := 6) dX6_record_4 (by decide) ?_
  refine wp_icN_ne (a := rc) (b := 6) (tgt := 50) dX6_record_6 (by decide) rfl rfl (by omega) (by omega) (fun h6 => ?_) (fun h6 => ?_)
  · refine tail M rc (by omega) hrc ⟨fun a h1 h2 => ?_, fun k hk => ?_, ?_, fun i j hj hi => ?_, fun j hj => ?_⟩
    · rw [up_n _ _ h1, up_n _ _ h2]
    · rw [up_s, up_n _ _ hk]
    · rw [up_s, up_s, if_neg h6]
    · rw [if_neg h6] at hi
      rw [up_n _ _ (by decide), up_s, va_cpy, if_neg (by omega), if_neg h6]
    · rw [up_n _ _ (by decide), up_s, va_cpy, if_neg h6, if_pos (by omega)]
      congr 1
      omega
  · refine wp_iconst (v := 0) dX6_record_9 (by decide) ?_
    refine wp_istore_n (L' := [some (.ref 235), some (.int _)]) dX6_record_10 (by decide) rfl ?_
    have loop : ∀ (f k : Nat) (ro : Nat → Int32), ro = hsh (M 238) k → 1850 - k < f → k ≤ 1850 → WP γ l mX6_record 1 243 243 11 [some (.ref 235), some (.int (nI k))] [] 243 (up M 238 ro) R K := by
      intro f
      induction f with
      | zero => intro k ro _ h; omega
      | succ f ih =>
        intro k ro hro hf hk
        refine wp_iload_n dX6_record_11 rfl ?_
        refine wp_sipush (v := 1850) dX6_record_12 (by decide) ?_
        refine wp_icN_ge (a := k) (b := 1850) (tgt := 40) dX6_record_15 (by decide) rfl rfl (by omega) (by omega) (fun h15 => ?_) (fun h15 => ?_)
        · refine wp_aload_n dX6_record_40 rfl ?_
          refine wp_dup dX6_record_41 rfl ?_
          refine wp_getJ fX6_31 tA_235 rfl (Nat.le_of_ble_eq_true rfl) dX6_record_42 ((congrFun (up_n _ _ (by decide)) _).trans (hrc.trans (by rw [h6]))) ?_
          refine wp_iconst (v := 1) dX6_record_45 (by decide) ?_
          refine wp_isub dX6_record_46 ?_
          refine wp_top (ix_sub (a := 6) (b := 1) rfl rfl (by omega)) ?_
          refine wp_putI pX6_31 tA_235 rfl ⟨rfl, rfl⟩ (Nat.le_of_ble_eq_true rfl) dX6_record_47 ?_
          refine wp_drop [some (.ref 235), none] (by repeat constructor) ?_
          refine tail _ 5 (by omega) (by rw [u2_s, up_s]) ⟨fun a h1 h2 => ?_, fun i hi => ?_, ?_, fun i j hj hi => ?_, fun j hj => ?_⟩
          · rw [up_n _ _ h1, up_n _ _ h2, u2_n _ _ _ h1, up_n _ _ h2]
          · rw [up_s, up_n _ _ hi, u2_s, up_n _ _ hi, up_n _ _ (by decide)]
          · rw [up_s, up_s, if_pos h6]
          · rw [if_pos h6] at hi
            rw [up_n _ _ (by decide), up_s, va_cpy, if_neg (by omega), if_pos h6, u2_n _ _ _ (by decide), up_s, hro, hsh, if_pos (by omega)]
            congr 1
            omega
          · rw [up_n _ _ (by decide), up_s, va_cpy, if_pos h6, if_pos (by omega), u2_n _ _ _ (by decide), up_n _ _ (by decide)]
            congr 1
            omega
        · refine wp_aload_n dX6_record_18 rfl ?_
          refine wp_getQ fX6_16 tA_235 rfl hM.f2 (by decide) (Nat.le_of_ble_eq_true rfl) dX6_record_19 ?_
          refine wp_iload_n dX6_record_22 rfl ?_
          refine wp_aload_n dX6_record_23 rfl ?_
          refine wp_getQ fX6_16 tA_235 rfl hM.f2 (by decide) (Nat.le_of_ble_eq_true rfl) dX6_record_24 ?_
          refine wp_iload_n dX6_record_27 rfl ?_
          refine wp_sipush (v := 370) dX6_record_28 (by decide) ?_
          refine wp_iadd dX6_record_31 ?_
          refine wp_iadn (i := (k + 370)) (ix_add rfl rfl) tA_238 (Nat.le_of_ble_eq_true rfl) (by rw [lA_238]; omega) (Nat.le_of_ble_eq_true rfl) dX6_record_32 (congrFun (up_s _ _ _) _) ?_
          refine wp_iast (i := k) rfl tA_238 (Nat.le_of_ble_eq_true rfl) (by rw [lA_238]; omega) (Nat.le_of_ble_eq_true rfl) dX6_record_33 ?_
          refine wp_mem (u2_up _ _ _ _ _) ?_
          refine wp_iinc (v := nI (k + 1)) (L' := [some (.ref 235), some (.int (nI (k + 1)))]) dX6_record_34 (by decide) rfl (inc_1 _) rfl ?_
          refine wp_goto (tgt := 11) dX6_record_37 (by decide) ?_
          refine ih (k + 1) _ ?_ (by omega) (by omega)
          rw [hro, hsh_s]
    exact (by
      refine wp_mem (M' := up M 238 (M 238)) (up_eta _ _).symm ?_
      exact loop 1851 0 _ (by funext j; rw [hsh, if_neg (by omega)]) (by omega) (by omega))

