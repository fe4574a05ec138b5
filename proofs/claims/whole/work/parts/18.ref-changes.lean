/-! THE REFERENCE: changes -/
theorem u2_at {α : Type} {f : Nat → Nat → α} {a i : Nat} {r : Nat → α} {v : α} (h : f a = r) : u2 f a i v = up f a (up r i v) := by rw [u2_eq, h]
abbrev svOk (s v : Int32) : Prop := (s = 0 ∧ 0 ≤ v ∧ v ≤ 100) ∨ (s = 1 ∧ 0 ≤ v ∧ v ≤ 50) ∨ (s = 2 ∧ 1 ≤ v ∧ v ≤ 9999)
set_option maxRecDepth 100000 in
set_option maxHeartbeats 4000000 in
theorem s_X6_isValue {γ : Gm} {l : Launch} {M : Mm} {R : Rm} {K : KT} {s v : Int32} (hK : K (some (.int (b01 (svOk s v)))) 243 M R) : CL γ l mX6_isValue 1 243 243 [.int s, .int v] M R K := by
  show WP γ l mX6_isValue 1 243 243 0 [some (.int s), some (.int v)] [] 243 M R K
  refine wp_iload_n dX6_isValue_0 rfl ?_
  refine wp_if_ne (tgt := 14) dX6_isValue_1 (by decide) (fun h1 => ?_) (fun h1 => ?_)
  · refine wp_iload_n dX6_isValue_14 rfl ?_
    refine wp_iconst (v := 1) dX6_isValue_15 (by decide) ?_
    refine wp_icmp_ne (tgt := 29) dX6_isValue_16 (by decide) (fun h16 => ?_) (fun h16 => ?_)
    · refine wp_iload_n dX6_isValue_29 rfl ?_
      refine wp_iconst (v := 2) dX6_isValue_30 (by decide) ?_
      refine wp_icmp_ne (tgt := 49) dX6_isValue_31 (by decide) (fun h31 => ?_) (fun h31 => ?_)
      · refine wp_iconst (v := 0) dX6_isValue_49 (by decide) ?_
        exact wp_iret dX6_isValue_50 rfl rfl rfl (by first | (rw [b01_t (by simp_all [svOk])] at hK; exact hK) | (rw [b01_f (by simp_all [svOk])] at hK; exact hK))
      · refine wp_iload_n dX6_isValue_34 rfl ?_
        refine wp_iconst (v := 1) dX6_isValue_35 (by decide) ?_
        refine wp_sipush (v := 9999) dX6_isValue_36 (by decide) ?_
        refine wp_cS3 (z := mX6_within) (n' := 243) kX6_39 dX6_isValue_39 (Nat.le_of_ble_eq_true rfl) (Nat.le_of_ble_eq_true rfl) (Nat.le_of_ble_eq_true rfl) (Nat.le_refl _) (Nat.le_refl _) (s_X6_within (wp_af ?_))
        refine wp_bq_eq (tgt := 49) dX6_isValue_42 (by decide) (fun h42 => ?_) (fun h42 => ?_)
        · refine wp_iconst (v := 0) dX6_isValue_49 (by decide) ?_
          exact wp_iret dX6_isValue_50 rfl rfl rfl (by first | (rw [b01_t (by simp_all [svOk])] at hK; exact hK) | (rw [b01_f (by simp_all [svOk])] at hK; exact hK))
        · refine wp_iconst (v := 1) dX6_isValue_45 (by decide) ?_
          refine wp_goto (tgt := 50) dX6_isValue_46 (by decide) ?_
          exact wp_iret dX6_isValue_50 rfl rfl rfl (by first | (rw [b01_t (by simp_all [svOk])] at hK; exact hK) | (rw [b01_f (by simp_all [svOk])] at hK; exact hK))
    · refine wp_iload_n dX6_isValue_19 rfl ?_
      refine wp_iconst (v := 0) dX6_isValue_20 (by decide) ?_
      refine wp_bipush (v := 50) dX6_isValue_21 (by decide) ?_
      refine wp_cS3 (z := mX6_within) (n' := 243) kX6_39 dX6_isValue_23 (Nat.le_of_ble_eq_true rfl) (Nat.le_of_ble_eq_true rfl) (Nat.le_of_ble_eq_true rfl) (Nat.le_refl _) (Nat.le_refl _) (s_X6_within (wp_af ?_))
      rw [b01_c (q := 0 ≤ v ∧ v ≤ 50) (by subst h16; simp [svOk])] at hK
      refine wp_goto (tgt := 50) dX6_isValue_26 (by decide) ?_
      exact wp_iret dX6_isValue_50 rfl b01_n rfl hK
  · refine wp_iload_n dX6_isValue_4 rfl ?_
    refine wp_iconst (v := 0) dX6_isValue_5 (by decide) ?_
    refine wp_bipush (v := 100) dX6_isValue_6 (by decide) ?_
    refine wp_cS3 (z := mX6_within) (n' := 243) kX6_39 dX6_isValue_8 (Nat.le_of_ble_eq_true rfl) (Nat.le_of_ble_eq_true rfl) (Nat.le_of_ble_eq_true rfl) (Nat.le_refl _) (Nat.le_refl _) (s_X6_within (wp_af ?_))
    rw [b01_c (q := 0 ≤ v ∧ v ≤ 100) (by subst h1; simp [svOk])] at hK
    refine wp_goto (tgt := 50) dX6_isValue_11 (by decide) ?_
    exact wp_iret dX6_isValue_50 rfl b01_n rfl hK

set_option maxRecDepth 100000 in
set_option maxHeartbeats 4000000 in
theorem s_X6_set {γ : Gm} {l : Launch} {M : Mm} {R : Rm} {K : KT} {rc : Nat} {s v : Int32} {sg : Nat → Int32} (hs : M 236 = sg) (hM : RM R) (hrc : M 235 3 = nI rc) (h6 : rc ≤ 6) (hE : ¬ svOk s v → K (some (.int (-2))) 243 M R) (hK : svOk s v → ∀ k, k < 3 → s = nI k → ∀ M1, HP M M1 rc → K (some (.int (sg k))) 243 (up M1 236 (up sg k v)) R) : CL γ l mX6_set 2 243 243 [.ref 235, .int s, .int v] M R K := by
  show WP γ l mX6_set 2 243 243 0 [some (.ref 235), some (.int s), some (.int v), none] [] 243 M R K
  refine wp_iload_n dX6_set_0 rfl ?_
  refine wp_iload_n dX6_set_1 rfl ?_
  refine wp_cS2 (z := mX6_isValue) (n' := 243) kX6_80 dX6_set_2 (Nat.le_of_ble_eq_true rfl) (Nat.le_of_ble_eq_true rfl) (Nat.le_of_ble_eq_true rfl) (Nat.le_refl _) (Nat.le_refl _) (s_X6_isValue (wp_af ?_))
  refine wp_bq_ne (tgt := 11) dX6_set_5 (by decide) (fun h5 => ?_) (fun h5 => ?_)
  · obtain ⟨k, hk, e_s⟩ : ∃ k, k < 3 ∧ s = nI k := by
        rcases h5 with h | h | h
        · exact ⟨0, by decide, h.1⟩
        · exact ⟨1, by decide, h.1⟩
        · exact ⟨2, by decide, h.1⟩
    refine wp_aload_n dX6_set_11 rfl ?_
    refine wp_cV0 (z := mX6_record) (n' := 243) kX6_84 dX6_set_12 (Nat.le_of_ble_eq_true rfl) (Nat.le_of_ble_eq_true rfl) tA_235 (Nat.le_of_ble_eq_true rfl) (Nat.le_of_ble_eq_true rfl) (Nat.le_refl _) (Nat.le_refl _) (s_X6_record hM hrc h6 (fun M1 hH => wp_af0 ?_))
    have hs1 : M1 236 = sg := (hH.1 _ (by decide) (by decide)).trans hs
    refine wp_aload_n dX6_set_15 rfl ?_
    refine wp_getQ fX6_7 tA_235 rfl hM.f0 (by decide) (Nat.le_of_ble_eq_true rfl) dX6_set_16 ?_
    refine wp_iload_n dX6_set_19 rfl ?_
    refine wp_iadn (i := k) e_s tA_236 (Nat.le_of_ble_eq_true rfl) (by rw [lA_236]; omega) (Nat.le_of_ble_eq_true rfl) dX6_set_20 (congrFun hs1 _) ?_
    refine wp_istore_n (L' := [some (.ref 235), some (.int s), some (.int v), some (.int _)]) dX6_set_21 (by decide) rfl ?_
    refine wp_aload_n dX6_set_22 rfl ?_
    refine wp_getQ fX6_7 tA_235 rfl hM.f0 (by decide) (Nat.le_of_ble_eq_true rfl) dX6_set_23 ?_
    refine wp_iload_n dX6_set_26 rfl ?_
    refine wp_iload_n dX6_set_27 rfl ?_
    refine wp_iast (i := k) e_s tA_236 (Nat.le_of_ble_eq_true rfl) (by rw [lA_236]; omega) (Nat.le_of_ble_eq_true rfl) dX6_set_28 ?_
    refine wp_mem (u2_at hs1) ?_
    refine wp_iload_n dX6_set_29 rfl ?_
    exact wp_iret dX6_set_30 rfl rfl rfl (hK h5 k hk e_s M1 hH)
  · refine wp_bipush (v := (-2)) dX6_set_8 (by decide) ?_
    exact wp_iret dX6_set_10 rfl rfl rfl (hE h5)

abbrev rcOk (so he pe f : Int32) : Prop := (0 ≤ so ∧ so ≤ 3) ∧ (-999 ≤ he ∧ he ≤ 999) ∧ (1 ≤ pe ∧ pe ≤ 60) ∧ (0 ≤ f ∧ f ≤ 59)
def whyP (sg : Nat → Int32) (np : Nat) (c so he pe f : Int32) : Int32 := if 0 ≤ c ∧ c ≤ 35 then (if rcOk so he pe f then (if rkU sg c np = -6 ∧ np = 6 then -4 else 0) else -2) else -1
set_option maxRecDepth 100000 in
set_option maxHeartbeats 4000000 in
theorem s_X6_whyNoPaddle {γ : Gm} {l : Launch} {M : Mm} {R : Rm} {K : KT} {np : Nat} {c so he pe f : Int32} {sg : Nat → Int32} (hs : M 236 = sg) (hM : RM R) (hn : sg 4 = nI np) (hp : np ≤ 6) (hK : K (some (.int (whyP sg np c so he pe f))) 243 M R) : CL γ l mX6_whyNoPaddle 2 243 243 [.ref 235, .int c, .int so, .int he, .int pe, .int f] M R K := by
  show WP γ l mX6_whyNoPaddle 2 243 243 0 [some (.ref 235), some (.int c), some (.int so), some (.int he), some (.int pe), some (.int f)] [] 243 M R K
  unfold whyP at hK
  refine wp_iload_n dX6_whyNoPaddle_0 rfl ?_
  refine wp_iconst (v := 0) dX6_whyNoPaddle_1 (by decide) ?_
  refine wp_bipush (v := 35) dX6_whyNoPaddle_2 (by decide) ?_
  refine wp_cS3 (z := mX6_within) (n' := 243) kX6_39 dX6_whyNoPaddle_4 (Nat.le_of_ble_eq_true rfl) (Nat.le_of_ble_eq_true rfl) (Nat.le_of_ble_eq_true rfl) (Nat.le_refl _) (Nat.le_refl _) (s_X6_within (wp_af ?_))
  refine wp_bq_ne (tgt := 12) dX6_whyNoPaddle_7 (by decide) (fun h7 => ?_) (fun h7 => ?_)
  · refine wp_iload_n dX6_whyNoPaddle_12 rfl ?_
    refine wp_iconst (v := 0) dX6_whyNoPaddle_13 (by decide) ?_
    refine wp_iconst (v := 3) dX6_whyNoPaddle_14 (by decide) ?_
    refine wp_cS3 (z := mX6_within) (n' := 243) kX6_39 dX6_whyNoPaddle_15 (Nat.le_of_ble_eq_true rfl) (Nat.le_of_ble_eq_true rfl) (Nat.le_of_ble_eq_true rfl) (Nat.le_refl _) (Nat.le_refl _) (s_X6_within (wp_af ?_))
    refine wp_bq_eq (tgt := 56) dX6_whyNoPaddle_18 (by decide) (fun h18 => ?_) (fun h18 => ?_)
    · refine wp_bipush (v := (-2)) dX6_whyNoPaddle_56 (by decide) ?_
      exact wp_iret dX6_whyNoPaddle_58 rfl rfl rfl (by (repeat' split at hK) <;> first | exact hK | contradiction | (exfalso; rename_i q; exact h66 q.1) | (exfalso; simp_all; done))
    · refine wp_iload_n dX6_whyNoPaddle_21 rfl ?_
      refine wp_sipush (v := (-999)) dX6_whyNoPaddle_22 (by decide) ?_
      refine wp_sipush (v := 999) dX6_whyNoPaddle_25 (by decide) ?_
      refine wp_cS3 (z := mX6_within) (n' := 243) kX6_39 dX6_whyNoPaddle_28 (Nat.le_of_ble_eq_true rfl) (Nat.le_of_ble_eq_true rfl) (Nat.le_of_ble_eq_true rfl) (Nat.le_refl _) (Nat.le_refl _) (s_X6_within (wp_af ?_))
      refine wp_bq_eq (tgt := 56) dX6_whyNoPaddle_31 (by decide) (fun h31 => ?_) (fun h31 => ?_)
      · refine wp_bipush (v := (-2)) dX6_whyNoPaddle_56 (by decide) ?_
        exact wp_iret dX6_whyNoPaddle_58 rfl rfl rfl (by (repeat' split at hK) <;> first | exact hK | contradiction | (exfalso; rename_i q; exact h66 q.1) | (exfalso; simp_all; done))
      · refine wp_iload dX6_whyNoPaddle_34 rfl ?_
        refine wp_iconst (v := 1) dX6_whyNoPaddle_36 (by decide) ?_
        refine wp_bipush (v := 60) dX6_whyNoPaddle_37 (by decide) ?_
        refine wp_cS3 (z := mX6_within) (n' := 243) kX6_39 dX6_whyNoPaddle_39 (Nat.le_of_ble_eq_true rfl) (Nat.le_of_ble_eq_true rfl) (Nat.le_of_ble_eq_true rfl) (Nat.le_refl _) (Nat.le_refl _) (s_X6_within (wp_af ?_))
        refine wp_bq_eq (tgt := 56) dX6_whyNoPaddle_42 (by decide) (fun h42 => ?_) (fun h42 => ?_)
        · refine wp_bipush (v := (-2)) dX6_whyNoPaddle_56 (by decide) ?_
          exact wp_iret dX6_whyNoPaddle_58 rfl rfl rfl (by (repeat' split at hK) <;> first | exact hK | contradiction | (exfalso; rename_i q; exact h66 q.1) | (exfalso; simp_all; done))
        · refine wp_iload dX6_whyNoPaddle_45 rfl ?_
          refine wp_iconst (v := 0) dX6_whyNoPaddle_47 (by decide) ?_
          refine wp_bipush (v := 59) dX6_whyNoPaddle_48 (by decide) ?_
          refine wp_cS3 (z := mX6_within) (n' := 243) kX6_39 dX6_whyNoPaddle_50 (Nat.le_of_ble_eq_true rfl) (Nat.le_of_ble_eq_true rfl) (Nat.le_of_ble_eq_true rfl) (Nat.le_refl _) (Nat.le_refl _) (s_X6_within (wp_af ?_))
          refine wp_bq_ne (tgt := 59) dX6_whyNoPaddle_53 (by decide) (fun h53 => ?_) (fun h53 => ?_)
          · refine wp_aload_n dX6_whyNoPaddle_59 rfl ?_
            refine wp_iload_n dX6_whyNoPaddle_60 rfl ?_
            refine wp_cV1 (z := mX6_rankIn) (n' := 243) kX6_87 dX6_whyNoPaddle_61 (Nat.le_of_ble_eq_true rfl) (Nat.le_of_ble_eq_true rfl) tA_235 (Nat.le_of_ble_eq_true rfl) (Nat.le_of_ble_eq_true rfl) (Nat.le_refl _) (Nat.le_refl _) (s_X6_rankIn hs hM hn hp (wp_af ?_))
            refine wp_bipush (v := (-6)) dX6_whyNoPaddle_64 (by decide) ?_
            refine wp_icmp_ne (tgt := 85) dX6_whyNoPaddle_66 (by decide) (fun h66 => ?_) (fun h66 => ?_)
            · refine wp_iconst (v := 0) dX6_whyNoPaddle_85 (by decide) ?_
              exact wp_iret dX6_whyNoPaddle_86 rfl rfl rfl (by (repeat' split at hK) <;> first | exact hK | contradiction | (exfalso; rename_i q; exact h66 q.1) | (exfalso; simp_all; done))
            · refine wp_aload_n dX6_whyNoPaddle_69 rfl ?_
              refine wp_getQ fX6_7 tA_235 rfl hM.f0 (by decide) (Nat.le_of_ble_eq_true rfl) dX6_whyNoPaddle_70 ?_
              refine wp_iconst (v := 4) dX6_whyNoPaddle_73 (by decide) ?_
              refine wp_iadn (i := 4) rfl tA_236 (Nat.le_of_ble_eq_true rfl) (by rw [lA_236]; omega) (Nat.le_of_ble_eq_true rfl) dX6_whyNoPaddle_74 ((congrFun hs _).trans (hn)) ?_
              refine wp_bipush (v := 6) dX6_whyNoPaddle_75 (by decide) ?_
              refine wp_icN_ne (a := np) (b := 6) (tgt := 85) dX6_whyNoPaddle_77 (by decide) rfl rfl (by omega) (by omega) (fun h77 => ?_) (fun h77 => ?_)
              · refine wp_iconst (v := 0) dX6_whyNoPaddle_85 (by decide) ?_
                exact wp_iret dX6_whyNoPaddle_86 rfl rfl rfl (by (repeat' split at hK) <;> first | exact hK | contradiction | (exfalso; rename_i q; exact h66 q.1) | (exfalso; simp_all; done))
              · refine wp_bipush (v := (-4)) dX6_whyNoPaddle_80 (by decide) ?_
                refine wp_goto (tgt := 86) dX6_whyNoPaddle_82 (by decide) ?_
                exact wp_iret dX6_whyNoPaddle_86 rfl rfl rfl (by (repeat' split at hK) <;> first | exact hK | contradiction | (exfalso; rename_i q; exact h66 q.1) | (exfalso; simp_all; done))
          · refine wp_bipush (v := (-2)) dX6_whyNoPaddle_56 (by decide) ?_
            exact wp_iret dX6_whyNoPaddle_58 rfl rfl rfl (by (repeat' split at hK) <;> first | exact hK | contradiction | (exfalso; rename_i q; exact h66 q.1) | (exfalso; simp_all; done))
  · refine wp_iconst (v := (-1)) dX6_whyNoPaddle_10 (by decide) ?_
    exact wp_iret dX6_whyNoPaddle_11 rfl rfl rfl (by (repeat' split at hK) <;> first | exact hK | contradiction | (exfalso; rename_i q; exact h66 q.1) | (exfalso; simp_all; done))

def lfN (sg : Nat → Int32) (k i : Nat) : Nat → Int32 := fun j => if 86 + 6 * k ≤ j ∧ j < i then sg (j + 6) else sg j
def lfF (sg : Nat → Int32) (np k : Nat) : Nat → Int32 := lfN (up sg 4 (nI (np - 1))) k (86 + 6 * (np - 1))
theorem lfN_0 (sg : Nat → Int32) (k : Nat) : lfN sg k (86 + 6 * k) = sg := by
  funext j
  rw [lfN, if_neg (by omega)]
theorem lfN_s {sg : Nat → Int32} {k i : Nat} (h : 86 + 6 * k ≤ i) : up (lfN sg k i) i (lfN sg k i (i + 6)) = lfN sg k (i + 1) := by
  funext j
  by_cases hj : j = i
  · subst hj
    rw [up_s, lfN, lfN, if_neg (by omega), if_pos (by omega)]
  · rw [up_n _ _ hj]
    by_cases h2 : 86 + 6 * k ≤ j ∧ j < i
    · rw [lfN, lfN, if_pos h2, if_pos (by omega)]
    · rw [lfN, lfN, if_neg h2, if_neg (by omega)]
set_option maxRecDepth 100000 in
set_option maxHeartbeats 4000000 in
theorem s_X6_lifts {γ : Gm} {l : Launch} {M : Mm} {R : Rm} {K : KT} {np k : Nat} {sg : Nat → Int32} (hs : M 236 = sg) (hM : RM R) (hn : sg 4 = nI np) (hp : np ≤ 6) (hk : k < np) (hK : K none 243 (up M 236 (lfF sg np k)) R) : CL γ l mX6_lifts 0 243 243 [.ref 235, .int (nI k)] M R K := by
  show WP γ l mX6_lifts 0 243 243 0 [some (.ref 235), some (.int (nI k)), none] [] 243 M R K
  have loop : ∀ (f i : Nat) (ro : Nat → Int32), ro = lfN (up sg 4 (nI (np - 1))) k i → 86 + 6 * (np - 1) - i < f → 86 + 6 * k ≤ i → i ≤ 86 + 6 * (np - 1) → WP γ l mX6_lifts 0 243 243 18 [some (.ref 235), some (.int (nI k)), some (.int (nI i))] [] 243 (up M 236 ro) R K := by
    intro f
    induction f with
    | zero => intro i ro _ h; omega
    | succ f ih =>
      intro i ro hro hf h86 hi
      have r4 : ro 4 = nI (np - 1) := by rw [hro, lfN, if_neg (by omega), up_s]
      refine wp_iload_n dX6_lifts_18 rfl ?_
      refine wp_bipush (v := 86) dX6_lifts_19 (by decide) ?_
      refine wp_bipush (v := 6) dX6_lifts_21 (by decide) ?_
      refine wp_aload_n dX6_lifts_23 rfl ?_
      refine wp_getQ fX6_7 tA_235 rfl hM.f0 (by decide) (Nat.le_of_ble_eq_true rfl) dX6_lifts_24 ?_
      refine wp_iconst (v := 4) dX6_lifts_27 (by decide) ?_
      refine wp_iadn (i := 4) rfl tA_236 (Nat.le_of_ble_eq_true rfl) (by rw [lA_236]; omega) (Nat.le_of_ble_eq_true rfl) dX6_lifts_28 ((congrFun (up_s _ _ _) _).trans (r4)) ?_
      refine wp_imul dX6_lifts_29 ?_
      refine wp_iadd dX6_lifts_30 ?_
      refine wp_icN_ge (a := i) (b := (86 + (6 * (np - 1)))) (tgt := 55) dX6_lifts_31 (by decide) rfl (ix_add rfl (ix_mul rfl rfl)) (by omega) (by omega) (fun h31 => ?_) (fun h31 => ?_)
      · exact wp_vret dX6_lifts_55 rfl rfl (by rw [hro, show i = 86 + 6 * (np - 1) by omega]; exact hK)
      · refine wp_aload_n dX6_lifts_34 rfl ?_
        refine wp_getQ fX6_7 tA_235 rfl hM.f0 (by decide) (Nat.le_of_ble_eq_true rfl) dX6_lifts_35 ?_
        refine wp_iload_n dX6_lifts_38 rfl ?_
        refine wp_aload_n dX6_lifts_39 rfl ?_
        refine wp_getQ fX6_7 tA_235 rfl hM.f0 (by decide) (Nat.le_of_ble_eq_true rfl) dX6_lifts_40 ?_
        refine wp_iload_n dX6_lifts_43 rfl ?_
        refine wp_bipush (v := 6) dX6_lifts_44 (by decide) ?_
        refine wp_iadd dX6_lifts_46 ?_
        refine wp_iadn (i := (i + 6)) (ix_add rfl rfl) tA_236 (Nat.le_of_ble_eq_true rfl) (by rw [lA_236]; omega) (Nat.le_of_ble_eq_true rfl) dX6_lifts_47 (congrFun (up_s _ _ _) _) ?_
        refine wp_iast (i := i) rfl tA_236 (Nat.le_of_ble_eq_true rfl) (by rw [lA_236]; omega) (Nat.le_of_ble_eq_true rfl) dX6_lifts_48 ?_
        refine wp_mem (u2_up _ _ _ _ _) ?_
        refine wp_iinc (v := nI (i + 1)) (L' := [some (.ref 235), some (.int (nI k)), some (.int (nI (i + 1)))]) dX6_lifts_49 (by decide) rfl (inc_1 _) rfl ?_
        refine wp_goto (tgt := 18) dX6_lifts_52 (by decide) ?_
        refine ih (i + 1) _ ?_ (by omega) (by omega) (by omega)
        rw [hro, lfN_s h86]
  refine wp_aload_n dX6_lifts_0 rfl ?_
  refine wp_getQ fX6_7 tA_235 rfl hM.f0 (by decide) (Nat.le_of_ble_eq_true rfl) dX6_lifts_1 ?_
  refine wp_iconst (v := 4) dX6_lifts_4 (by decide) ?_
  refine wp_dup2 dX6_lifts_5 rfl rfl ?_
  refine wp_iadn (i := 4) rfl tA_236 (Nat.le_of_ble_eq_true rfl) (by rw [lA_236]; omega) (Nat.le_of_ble_eq_true rfl) dX6_lifts_6 ((congrFun hs _).trans (hn)) ?_
  refine wp_iconst (v := 1) dX6_lifts_7 (by decide) ?_
  refine wp_isub dX6_lifts_8 ?_
  refine wp_top (ix_sub (a := np) (b := 1) rfl rfl (by omega)) ?_
  refine wp_iast (i := 4) rfl tA_236 (Nat.le_of_ble_eq_true rfl) (by rw [lA_236]; omega) (Nat.le_of_ble_eq_true rfl) dX6_lifts_9 ?_
  refine wp_mem (u2_at hs) ?_
  refine wp_bipush (v := 86) dX6_lifts_10 (by decide) ?_
  refine wp_bipush (v := 6) dX6_lifts_12 (by decide) ?_
  refine wp_iload_n dX6_lifts_14 rfl ?_
  refine wp_imul dX6_lifts_15 ?_
  refine wp_iadd dX6_lifts_16 ?_
  refine wp_top (ix_add rfl (ix_mul rfl rfl)) ?_
  refine wp_istore_n (L' := [some (.ref 235), some (.int (nI k)), some (.int (nI (86 + 6 * k)))]) dX6_lifts_17 (by decide) rfl ?_
  exact loop (86 + 6 * np) (86 + 6 * k) _ (lfN_0 _ k).symm (by omega) (by omega) (by omega)

theorem rkU_in {sg : Nat → Int32} {c : Int32} : ∀ {m : Nat}, ¬ rkU sg c m = -6 → ∃ k, k < m ∧ rkU sg c m = nI k
  | 0, h => absurd rfl h
  | m + 1, h => by
    unfold rkU at h ⊢
    split at h
    · rename_i q
      exact ⟨m, by omega, by rw [if_pos q]⟩
    · rename_i q
      obtain ⟨k, h1, h2⟩ := rkU_in h
      exact ⟨k, by omega, by rw [if_neg q]; exact h2⟩
set_option maxRecDepth 100000 in
set_option maxHeartbeats 4000000 in
theorem s_X6_lift {γ : Gm} {l : Launch} {M : Mm} {R : Rm} {K : KT} {rc np : Nat} {c : Int32} {sg : Nat → Int32} (hs : M 236 = sg) (hM : RM R) (hrc : M 235 3 = nI rc) (h6 : rc ≤ 6) (hn : sg 4 = nI np) (hp : np ≤ 6) (hE : rkU sg c np = -6 → K (some (.int (-1))) 243 M R) (hK : ∀ k, k < np → rkU sg c np = nI k → ∀ M1, HP M M1 rc → K (some (.int (nI (np - 1)))) 243 (up M1 236 (lfF sg np k)) R) : CL γ l mX6_lift 2 243 243 [.ref 235, .int c] M R K := by
  show WP γ l mX6_lift 2 243 243 0 [some (.ref 235), some (.int c)] [] 243 M R K
  refine wp_aload_n dX6_lift_0 rfl ?_
  refine wp_iload_n dX6_lift_1 rfl ?_
  refine wp_cV1 (z := mX6_rankIn) (n' := 243) kX6_87 dX6_lift_2 (Nat.le_of_ble_eq_true rfl) (Nat.le_of_ble_eq_true rfl) tA_235 (Nat.le_of_ble_eq_true rfl) (Nat.le_of_ble_eq_true rfl) (Nat.le_refl _) (Nat.le_refl _) (s_X6_rankIn hs hM hn hp (wp_af ?_))
  refine wp_bipush (v := (-6)) dX6_lift_5 (by decide) ?_
  refine wp_icmp_ne (tgt := 12) dX6_lift_7 (by decide) (fun h7 => ?_) (fun h7 => ?_)
  · obtain ⟨k, hk, e_k⟩ := rkU_in (sg := sg) (c := c) (m := np) h7
    refine wp_aload_n dX6_lift_12 rfl ?_
    refine wp_cV0 (z := mX6_record) (n' := 243) kX6_84 dX6_lift_13 (Nat.le_of_ble_eq_true rfl) (Nat.le_of_ble_eq_true rfl) tA_235 (Nat.le_of_ble_eq_true rfl) (Nat.le_of_ble_eq_true rfl) (Nat.le_refl _) (Nat.le_refl _) (s_X6_record hM hrc h6 (fun M1 hH => wp_af0 ?_))
    have hs1 : M1 236 = sg := (hH.1 _ (by decide) (by decide)).trans hs
    refine wp_aload_n dX6_lift_16 rfl ?_
    refine wp_aload_n dX6_lift_17 rfl ?_
    refine wp_iload_n dX6_lift_18 rfl ?_
    refine wp_cV1 (z := mX6_rankIn) (n' := 243) kX6_87 dX6_lift_19 (Nat.le_of_ble_eq_true rfl) (Nat.le_of_ble_eq_true rfl) tA_235 (Nat.le_of_ble_eq_true rfl) (Nat.le_of_ble_eq_true rfl) (Nat.le_refl _) (Nat.le_refl _) (s_X6_rankIn hs1 hM hn hp (wp_af ?_))
    refine wp_top (e_k) ?_
    refine wp_cV1 (z := mX6_lifts) (n' := 243) kX6_90 dX6_lift_22 (Nat.le_of_ble_eq_true rfl) (Nat.le_of_ble_eq_true rfl) tA_235 (Nat.le_of_ble_eq_true rfl) (Nat.le_of_ble_eq_true rfl) (Nat.le_refl _) (Nat.le_refl _) (s_X6_lifts hs1 hM hn hp hk (wp_af0 ?_))
    refine wp_aload_n dX6_lift_25 rfl ?_
    refine wp_getQ fX6_7 tA_235 rfl hM.f0 (by decide) (Nat.le_of_ble_eq_true rfl) dX6_lift_26 ?_
    refine wp_iconst (v := 4) dX6_lift_29 (by decide) ?_
    refine wp_iadn (i := 4) rfl tA_236 (Nat.le_of_ble_eq_true rfl) (by rw [lA_236]; omega) (Nat.le_of_ble_eq_true rfl) dX6_lift_30 ((congrFun (up_s _ _ _) _).trans ((by rw [lfF, lfN, if_neg (by omega), up_s]))) ?_
    exact wp_iret dX6_lift_31 rfl rfl rfl (hK k hk e_k M1 hH)
  · refine wp_iconst (v := (-1)) dX6_lift_10 (by decide) ?_
    exact wp_iret dX6_lift_11 rfl rfl rfl (hE h7)

set_option maxRecDepth 100000 in
set_option maxHeartbeats 4000000 in
theorem s_X6_again {γ : Gm} {l : Launch} {M : Mm} {R : Rm} {K : KT} {rc np : Nat} {c : Int32} {sg : Nat → Int32} (hs : M 236 = sg) (hM : RM R) (hrc : M 235 3 = nI rc) (h6 : rc ≤ 6) (hn : sg 4 = nI np) (hp : np ≤ 6) (hE : rkU sg c np = -6 → K (some (.int (-1))) 243 M R) (hK : ∀ k, k < np → rkU sg c np = nI k → ∀ M1, HP M M1 rc → K (some (.int (1 - sg (86 + 6 * k + 5)))) 243 (up M1 236 (up sg (86 + 6 * k + 5) 1)) R) : CL γ l mX6_again 2 243 243 [.ref 235, .int c] M R K := by
  show WP γ l mX6_again 2 243 243 0 [some (.ref 235), some (.int c), none, none] [] 243 M R K
  refine wp_aload_n dX6_again_0 rfl ?_
  refine wp_iload_n dX6_again_1 rfl ?_
  refine wp_cV1 (z := mX6_rankIn) (n' := 243) kX6_87 dX6_again_2 (Nat.le_of_ble_eq_true rfl) (Nat.le_of_ble_eq_true rfl) tA_235 (Nat.le_of_ble_eq_true rfl) (Nat.le_of_ble_eq_true rfl) (Nat.le_refl _) (Nat.le_refl _) (s_X6_rankIn hs hM hn hp (wp_af ?_))
  refine wp_istore_n (L' := [some (.ref 235), some (.int c), some (.int _), none]) dX6_again_5 (by decide) rfl ?_
  refine wp_iload_n dX6_again_6 rfl ?_
  refine wp_bipush (v := (-6)) dX6_again_7 (by decide) ?_
  refine wp_icmp_ne (tgt := 14) dX6_again_9 (by decide) (fun h9 => ?_) (fun h9 => ?_)
  · obtain ⟨k, hk, e_k⟩ := rkU_in (sg := sg) (c := c) (m := np) h9
    rw [e_k]
    refine wp_aload_n dX6_again_14 rfl ?_
    refine wp_cV0 (z := mX6_record) (n' := 243) kX6_84 dX6_again_15 (Nat.le_of_ble_eq_true rfl) (Nat.le_of_ble_eq_true rfl) tA_235 (Nat.le_of_ble_eq_true rfl) (Nat.le_of_ble_eq_true rfl) (Nat.le_refl _) (Nat.le_refl _) (s_X6_record hM hrc h6 (fun M1 hH => wp_af0 ?_))
    have hs1 : M1 236 = sg := (hH.1 _ (by decide) (by decide)).trans hs
    refine wp_iconst (v := 1) dX6_again_18 (by decide) ?_
    refine wp_aload_n dX6_again_19 rfl ?_
    refine wp_iload_n dX6_again_20 rfl ?_
    refine wp_iconst (v := 5) dX6_again_21 (by decide) ?_
    refine wp_cV2 (z := mX6_paddlePart) (n' := 243) kX6_43 dX6_again_22 (Nat.le_of_ble_eq_true rfl) (Nat.le_of_ble_eq_true rfl) tA_235 (Nat.le_of_ble_eq_true rfl) (Nat.le_of_ble_eq_true rfl) (Nat.le_refl _) (Nat.le_refl _) (s_X6_paddlePart hs1 (k := k) (j := 5) hM (by omega) (by omega) (wp_af ?_))
    refine wp_isub dX6_again_25 ?_
    refine wp_istore_n (L' := [some (.ref 235), some (.int c), some (.int (nI k)), some (.int _)]) dX6_again_26 (by decide) rfl ?_
    refine wp_aload_n dX6_again_27 rfl ?_
    refine wp_iload_n dX6_again_28 rfl ?_
    refine wp_iconst (v := 5) dX6_again_29 (by decide) ?_
    refine wp_iconst (v := 1) dX6_again_30 (by decide) ?_
    refine wp_cV3 (z := mX6_setPaddle) (n' := 243) kX6_54 dX6_again_31 (Nat.le_of_ble_eq_true rfl) (Nat.le_of_ble_eq_true rfl) tA_235 (Nat.le_of_ble_eq_true rfl) (Nat.le_of_ble_eq_true rfl) (Nat.le_refl _) (Nat.le_refl _) (s_X6_setPaddle hs1 (k := k) (j := 5) hM (by omega) (by omega) (wp_af0 ?_))
    refine wp_iload_n dX6_again_34 rfl ?_
    exact wp_iret dX6_again_35 rfl rfl rfl (hK k hk e_k M1 hH)
  · refine wp_iconst (v := (-1)) dX6_again_12 (by decide) ?_
    exact wp_iret dX6_again_13 rfl rfl rfl (hE h9)

def cgN (sg : Nat → Int32) (g : Nat) (c : Int32) (i : Nat) : Nat → Int32 := fun j => if 122 + 62 * g ≤ j ∧ j < 122 + 62 * g + i then (if j = 122 + 62 * g then c else 0) else sg j
def cgF (sg : Nat → Int32) (g : Nat) (c : Int32) : Nat → Int32 := up (cgN sg g c 62) 5 (nI (g + 1))
def whyG (ng : Nat) (c : Int32) : Int32 := if 0 ≤ c ∧ c ≤ 39 then (if ng = 4 then -4 else 0) else -1
theorem cgN_0 (sg : Nat → Int32) (g : Nat) (c : Int32) : cgN sg g c 0 = sg := by
  funext j
  rw [cgN, if_neg (by omega)]
theorem cgN_s {sg : Nat → Int32} {g i : Nat} {c v : Int32} (hv : v = if i = 0 then c else 0) : up (cgN sg g c i) (122 + 62 * g + i) v = cgN sg g c (i + 1) := by
  funext j
  by_cases hj : j = 122 + 62 * g + i
  · subst hj
    rw [up_s, cgN, if_pos (by omega), hv]
    by_cases h : i = 0
    · rw [if_pos h, if_pos (by omega)]
    · rw [if_neg h, if_neg (by omega)]
  · rw [up_n _ _ hj]
    by_cases h2 : 122 + 62 * g ≤ j ∧ j < 122 + 62 * g + i
    · rw [cgN, cgN, if_pos h2, if_pos (c := 122 + 62 * g ≤ j ∧ j < 122 + 62 * g + (i + 1)) (by omega)]
    · rw [cgN, cgN, if_neg h2, if_neg (by omega)]
set_option maxRecDepth 100000 in
set_option maxHeartbeats 4000000 in
theorem s_X6_whyNoGauge {γ : Gm} {l : Launch} {M : Mm} {R : Rm} {K : KT} {ng : Nat} {c : Int32} {sg : Nat → Int32} (hs : M 236 = sg) (hM : RM R) (hn : sg 5 = nI ng) (hg : ng ≤ 4) (hK : K (some (.int (whyG ng c))) 243 M R) : CL γ l mX6_whyNoGauge 2 243 243 [.ref 235, .int c] M R K := by
  show WP γ l mX6_whyNoGauge 2 243 243 0 [some (.ref 235), some (.int c)] [] 243 M R K
  unfold whyG at hK
  refine wp_iload_n dX6_whyNoGauge_0 rfl ?_
  refine wp_cS1 (z := mX6_isCell) (n' := 243) kX6_102 dX6_whyNoGauge_1 (Nat.le_of_ble_eq_true rfl) (Nat.le_of_ble_eq_true rfl) (Nat.le_of_ble_eq_true rfl) (Nat.le_refl _) (Nat.le_refl _) (s_X6_isCell (wp_af ?_))
  refine wp_bq_ne (tgt := 11) dX6_whyNoGauge_4 (by decide) (fun h4 => ?_) (fun h4 => ?_)
  · refine wp_aload_n dX6_whyNoGauge_11 rfl ?_
    refine wp_getQ fX6_7 tA_235 rfl hM.f0 (by decide) (Nat.le_of_ble_eq_true rfl) dX6_whyNoGauge_12 ?_
    refine wp_iconst (v := 5) dX6_whyNoGauge_15 (by decide) ?_
    refine wp_iadn (i := 5) rfl tA_236 (Nat.le_of_ble_eq_true rfl) (by rw [lA_236]; omega) (Nat.le_of_ble_eq_true rfl) dX6_whyNoGauge_16 ((congrFun hs _).trans (hn)) ?_
    refine wp_iconst (v := 4) dX6_whyNoGauge_17 (by decide) ?_
    refine wp_icN_ne (a := ng) (b := 4) (tgt := 26) dX6_whyNoGauge_18 (by decide) rfl rfl (by omega) (by omega) (fun h18 => ?_) (fun h18 => ?_)
    · refine wp_iconst (v := 0) dX6_whyNoGauge_26 (by decide) ?_
      exact wp_iret dX6_whyNoGauge_27 rfl rfl rfl (by (repeat' split at hK) <;> first | exact hK | contradiction | (exfalso; rename_i q; exact h66 q.1) | (exfalso; simp_all; done))
    · refine wp_bipush (v := (-4)) dX6_whyNoGauge_21 (by decide) ?_
      refine wp_goto (tgt := 27) dX6_whyNoGauge_23 (by decide) ?_
      exact wp_iret dX6_whyNoGauge_27 rfl rfl rfl (by (repeat' split at hK) <;> first | exact hK | contradiction | (exfalso; rename_i q; exact h66 q.1) | (exfalso; simp_all; done))
  · refine wp_iconst (v := (-1)) dX6_whyNoGauge_7 (by decide) ?_
    refine wp_goto (tgt := 27) dX6_whyNoGauge_8 (by decide) ?_
    exact wp_iret dX6_whyNoGauge_27 rfl rfl rfl (by (repeat' split at hK) <;> first | exact hK | contradiction | (exfalso; rename_i q; exact h66 q.1) | (exfalso; simp_all; done))

set_option maxRecDepth 100000 in
set_option maxHeartbeats 4000000 in
theorem s_X6_comesGauge {γ : Gm} {l : Launch} {M : Mm} {R : Rm} {K : KT} {ng : Nat} {c : Int32} {sg : Nat → Int32} (hs : M 236 = sg) (hM : RM R) (hn : sg 5 = nI ng) (hg : ng < 4) (hK : K (some (.int (nI ng))) 243 (up M 236 (cgF sg ng c)) R) : CL γ l mX6_comesGauge 0 243 243 [.ref 235, .int c] M R K := by
  show WP γ l mX6_comesGauge 0 243 243 0 [some (.ref 235), some (.int c), none, none] [] 243 M R K
  have loop : ∀ (f i : Nat) (ro : Nat → Int32), ro = cgN sg ng c i → 62 - i < f → i ≤ 62 → WP γ l mX6_comesGauge 0 243 243 9 [some (.ref 235), some (.int c), some (.int (nI ng)), some (.int (nI i))] [] 243 (up M 236 ro) R K := by
    intro f
    induction f with
    | zero => intro i ro _ h; omega
    | succ f ih =>
      intro i ro hro hf hi
      refine wp_iload_n dX6_comesGauge_9 rfl ?_
      refine wp_bipush (v := 62) dX6_comesGauge_10 (by decide) ?_
      refine wp_icN_ge (a := i) (b := 62) (tgt := 44) dX6_comesGauge_12 (by decide) rfl rfl (by omega) (by omega) (fun h12 => ?_) (fun h12 => ?_)
      · refine wp_aload_n dX6_comesGauge_44 rfl ?_
        refine wp_getQ fX6_7 tA_235 rfl hM.f0 (by decide) (Nat.le_of_ble_eq_true rfl) dX6_comesGauge_45 ?_
        refine wp_iconst (v := 5) dX6_comesGauge_48 (by decide) ?_
        refine wp_dup2 dX6_comesGauge_49 rfl rfl ?_
        refine wp_iadn (i := 5) rfl tA_236 (Nat.le_of_ble_eq_true rfl) (by rw [lA_236]; omega) (Nat.le_of_ble_eq_true rfl) dX6_comesGauge_50 ((congrFun (up_s _ _ _) _).trans ((show ro 5 = nI ng by rw [hro, cgN, if_neg (by omega)]; exact hn))) ?_
        refine wp_iconst (v := 1) dX6_comesGauge_51 (by decide) ?_
        refine wp_iadd dX6_comesGauge_52 ?_
        refine wp_top (nI_1 _) ?_
        refine wp_iast (i := 5) rfl tA_236 (Nat.le_of_ble_eq_true rfl) (by rw [lA_236]; omega) (Nat.le_of_ble_eq_true rfl) dX6_comesGauge_53 ?_
        refine wp_mem (u2_up _ _ _ _ _) ?_
        refine wp_iload_n dX6_comesGauge_54 rfl ?_
        exact wp_iret dX6_comesGauge_55 rfl rfl rfl (by rw [hro, show i = 62 by omega]; exact hK)
      · refine wp_aload_n dX6_comesGauge_15 rfl ?_
        refine wp_getQ fX6_7 tA_235 rfl hM.f0 (by decide) (Nat.le_of_ble_eq_true rfl) dX6_comesGauge_16 ?_
        refine wp_bipush (v := 122) dX6_comesGauge_19 (by decide) ?_
        refine wp_bipush (v := 62) dX6_comesGauge_21 (by decide) ?_
        refine wp_iload_n dX6_comesGauge_23 rfl ?_
        refine wp_imul dX6_comesGauge_24 ?_
        refine wp_iadd dX6_comesGauge_25 ?_
        refine wp_iload_n dX6_comesGauge_26 rfl ?_
        refine wp_iadd dX6_comesGauge_27 ?_
        refine wp_iload_n dX6_comesGauge_28 rfl ?_
        refine wp_ifN_ne (a := i) (tgt := 36) dX6_comesGauge_29 (by decide) rfl (by omega) (fun h29 => ?_) (fun h29 => ?_)
        · refine wp_iconst (v := 0) dX6_comesGauge_36 (by decide) ?_
          refine wp_iast (i := ((122 + (62 * ng)) + i)) (ix_add (ix_add rfl (ix_mul rfl rfl)) rfl) tA_236 (Nat.le_of_ble_eq_true rfl) (by rw [lA_236]; omega) (Nat.le_of_ble_eq_true rfl) dX6_comesGauge_37 ?_
          refine wp_mem (u2_up _ _ _ _ _) ?_
          refine wp_iinc (v := nI (i + 1)) (L' := [some (.ref 235), some (.int c), some (.int (nI ng)), some (.int (nI (i + 1)))]) dX6_comesGauge_38 (by decide) rfl (inc_1 _) rfl ?_
          refine wp_goto (tgt := 9) dX6_comesGauge_41 (by decide) ?_
          refine ih (i + 1) _ ?_ (by omega) (by omega)
          rw [hro, cgN_s (by first | rw [if_pos (by omega)] | (rw [if_neg (by omega)]))]
        · refine wp_iload_n dX6_comesGauge_32 rfl ?_
          refine wp_goto (tgt := 37) dX6_comesGauge_33 (by decide) ?_
          refine wp_iast (i := ((122 + (62 * ng)) + i)) (ix_add (ix_add rfl (ix_mul rfl rfl)) rfl) tA_236 (Nat.le_of_ble_eq_true rfl) (by rw [lA_236]; omega) (Nat.le_of_ble_eq_true rfl) dX6_comesGauge_37 ?_
          refine wp_mem (u2_up _ _ _ _ _) ?_
          refine wp_iinc (v := nI (i + 1)) (L' := [some (.ref 235), some (.int c), some (.int (nI ng)), some (.int (nI (i + 1)))]) dX6_comesGauge_38 (by decide) rfl (inc_1 _) rfl ?_
          refine wp_goto (tgt := 9) dX6_comesGauge_41 (by decide) ?_
          refine ih (i + 1) _ ?_ (by omega) (by omega)
          rw [hro, cgN_s (by first | rw [if_pos (by omega)] | (rw [if_neg (by omega)]))]
  refine wp_aload_n dX6_comesGauge_0 rfl ?_
  refine wp_getQ fX6_7 tA_235 rfl hM.f0 (by decide) (Nat.le_of_ble_eq_true rfl) dX6_comesGauge_1 ?_
  refine wp_iconst (v := 5) dX6_comesGauge_4 (by decide) ?_
  refine wp_iadn (i := 5) rfl tA_236 (Nat.le_of_ble_eq_true rfl) (by rw [lA_236]; omega) (Nat.le_of_ble_eq_true rfl) dX6_comesGauge_5 ((congrFun hs _).trans (hn)) ?_
  refine wp_istore_n (L' := [some (.ref 235), some (.int c), some (.int (nI ng)), none]) dX6_comesGauge_6 (by decide) rfl ?_
  refine wp_iconst (v := 0) dX6_comesGauge_7 (by decide) ?_
  refine wp_istore_n (L' := [some (.ref 235), some (.int c), some (.int (nI ng)), some (.int _)]) dX6_comesGauge_8 (by decide) rfl ?_
  refine wp_mem (M' := up M 236 sg) (by rw [← hs, up_eta]) ?_
  exact loop 63 0 _ (cgN_0 _ _ _).symm (by omega) (by omega)

set_option maxRecDepth 100000 in
set_option maxHeartbeats 4000000 in
theorem s_X6_gauge {γ : Gm} {l : Launch} {M : Mm} {R : Rm} {K : KT} {rc ng : Nat} {c : Int32} {sg : Nat → Int32} (hs : M 236 = sg) (hM : RM R) (hrc : M 235 3 = nI rc) (h6 : rc ≤ 6) (hn : sg 5 = nI ng) (hg : ng ≤ 4) (hE : whyG ng c < 0 → K (some (.int (whyG ng c))) 243 M R) (hK : ¬ whyG ng c < 0 → ng < 4 → ∀ M1, HP M M1 rc → K (some (.int (nI ng))) 243 (up M1 236 (cgF sg ng c)) R) : CL γ l mX6_gauge 3 243 243 [.ref 235, .int c] M R K := by
  show WP γ l mX6_gauge 3 243 243 0 [some (.ref 235), some (.int c), none] [] 243 M R K
  refine wp_aload_n dX6_gauge_0 rfl ?_
  refine wp_iload_n dX6_gauge_1 rfl ?_
  refine wp_cV1 (z := mX6_whyNoGauge) (n' := 243) kX6_106 dX6_gauge_2 (Nat.le_of_ble_eq_true rfl) (Nat.le_of_ble_eq_true rfl) tA_235 (Nat.le_of_ble_eq_true rfl) (Nat.le_of_ble_eq_true rfl) (Nat.le_refl _) (Nat.le_refl _) (s_X6_whyNoGauge hs hM hn hg (wp_af ?_))
  refine wp_topv (fun why e_why => ?_)
  refine wp_istore_n (L' := [some (.ref 235), some (.int c), some (.int why)]) dX6_gauge_5 (by decide) rfl ?_
  refine wp_iload_n dX6_gauge_6 rfl ?_
  refine wp_if_ge (tgt := 12) dX6_gauge_7 (by decide) (fun h7 => ?_) (fun h7 => ?_)
  · have h7b : ¬ whyG ng c < 0 := e_why ▸ Int32.not_lt.mpr h7
    have h4 : ng < 4 := by
      rcases Nat.lt_or_ge ng 4 with q | q
      · exact q
      · exfalso
        apply h7b
        unfold whyG
        split
        · rw [if_pos (by omega)]
          decide
        · decide
    refine wp_aload_n dX6_gauge_12 rfl ?_
    refine wp_cV0 (z := mX6_record) (n' := 243) kX6_84 dX6_gauge_13 (Nat.le_of_ble_eq_true rfl) (Nat.le_of_ble_eq_true rfl) tA_235 (Nat.le_of_ble_eq_true rfl) (Nat.le_of_ble_eq_true rfl) (Nat.le_refl _) (Nat.le_refl _) (s_X6_record hM hrc h6 (fun M1 hH => wp_af0 ?_))
    have hs1 : M1 236 = sg := (hH.1 _ (by decide) (by decide)).trans hs
    refine wp_aload_n dX6_gauge_16 rfl ?_
    refine wp_iload_n dX6_gauge_17 rfl ?_
    refine wp_cV1 (z := mX6_comesGauge) (n' := 243) kX6_109 dX6_gauge_18 (Nat.le_of_ble_eq_true rfl) (Nat.le_of_ble_eq_true rfl) tA_235 (Nat.le_of_ble_eq_true rfl) (Nat.le_of_ble_eq_true rfl) (Nat.le_refl _) (Nat.le_refl _) (s_X6_comesGauge hs1 hM hn h4 (wp_af ?_))
    exact wp_iret dX6_gauge_21 rfl rfl rfl (hK h7b h4 M1 hH)
  · have h7b : whyG ng c < 0 := e_why ▸ Int32.not_le.mp h7
    refine wp_iload_n dX6_gauge_10 rfl ?_
    exact wp_iret dX6_gauge_11 rfl rfl rfl (e_why ▸ hE h7b)

theorem cell_in {c : Int32} (h : 0 ≤ c ∧ c ≤ 39) : ∃ k, k < 40 ∧ c = nI k := by
  obtain ⟨j, h1, h2⟩ := nI_of2 (M := 39) (n := 39) (by decide) (Int32.not_lt.mpr h.1) h.2
  exact ⟨j, by omega, h2⟩
set_option maxRecDepth 100000 in
set_option maxHeartbeats 4000000 in
theorem s_X6_level {γ : Gm} {l : Launch} {M : Mm} {R : Rm} {K : KT} {rc : Nat} {c v : Int32} {sg : Nat → Int32} (hs : M 236 = sg) (hM : RM R) (hrc : M 235 3 = nI rc) (h6 : rc ≤ 6) (hE1 : ¬ (0 ≤ c ∧ c ≤ 39) → K (some (.int (-1))) 243 M R) (hE2 : (0 ≤ c ∧ c ≤ 39) → ¬ (-9999 ≤ v ∧ v ≤ 9999) → K (some (.int (-2))) 243 M R) (hK : (-9999 ≤ v ∧ v ≤ 9999) → ∀ k, k < 40 → c = nI k → ∀ M1, HP M M1 rc → K (some (.int (sg (6 + k) + 10000))) 243 (up M1 236 (up sg (6 + k) v)) R) : CL γ l mX6_level 2 243 243 [.ref 235, .int c, .int v] M R K := by
  show WP γ l mX6_level 2 243 243 0 [some (.ref 235), some (.int c), some (.int v), none] [] 243 M R K
  refine wp_iload_n dX6_level_0 rfl ?_
  refine wp_cS1 (z := mX6_isCell) (n' := 243) kX6_102 dX6_level_1 (Nat.le_of_ble_eq_true rfl) (Nat.le_of_ble_eq_true rfl) (Nat.le_of_ble_eq_true rfl) (Nat.le_refl _) (Nat.le_refl _) (s_X6_isCell (wp_af ?_))
  refine wp_bq_ne (tgt := 9) dX6_level_4 (by decide) (fun h4 => ?_) (fun h4 => ?_)
  · obtain ⟨k, hk, e_c⟩ := cell_in h4
    subst e_c
    refine wp_iload_n dX6_level_9 rfl ?_
    refine wp_sipush (v := (-9999)) dX6_level_10 (by decide) ?_
    refine wp_sipush (v := 9999) dX6_level_13 (by decide) ?_
    refine wp_cS3 (z := mX6_within) (n' := 243) kX6_39 dX6_level_16 (Nat.le_of_ble_eq_true rfl) (Nat.le_of_ble_eq_true rfl) (Nat.le_of_ble_eq_true rfl) (Nat.le_refl _) (Nat.le_refl _) (s_X6_within (wp_af ?_))
    refine wp_bq_ne (tgt := 25) dX6_level_19 (by decide) (fun h19 => ?_) (fun h19 => ?_)
    · refine wp_aload_n dX6_level_25 rfl ?_
      refine wp_cV0 (z := mX6_record) (n' := 243) kX6_84 dX6_level_26 (Nat.le_of_ble_eq_true rfl) (Nat.le_of_ble_eq_true rfl) tA_235 (Nat.le_of_ble_eq_true rfl) (Nat.le_of_ble_eq_true rfl) (Nat.le_refl _) (Nat.le_refl _) (s_X6_record hM hrc h6 (fun M1 hH => wp_af0 ?_))
      have hs1 : M1 236 = sg := (hH.1 _ (by decide) (by decide)).trans hs
      refine wp_aload_n dX6_level_29 rfl ?_
      refine wp_iload_n dX6_level_30 rfl ?_
      refine wp_cV1 (z := mX6_levelOf) (n' := 243) kX6_47 dX6_level_31 (Nat.le_of_ble_eq_true rfl) (Nat.le_of_ble_eq_true rfl) tA_235 (Nat.le_of_ble_eq_true rfl) (Nat.le_of_ble_eq_true rfl) (Nat.le_refl _) (Nat.le_refl _) (s_X6_levelOf hs1 (c := k) hM hk (wp_af ?_))
      refine wp_istore_n (L' := [some (.ref 235), some (.int (nI k)), some (.int v), some (.int _)]) dX6_level_34 (by decide) rfl ?_
      refine wp_aload_n dX6_level_35 rfl ?_
      refine wp_getQ fX6_7 tA_235 rfl hM.f0 (by decide) (Nat.le_of_ble_eq_true rfl) dX6_level_36 ?_
      refine wp_bipush (v := 6) dX6_level_39 (by decide) ?_
      refine wp_iload_n dX6_level_41 rfl ?_
      refine wp_iadd dX6_level_42 ?_
      refine wp_iload_n dX6_level_43 rfl ?_
      refine wp_iast (i := (6 + k)) (ix_add rfl rfl) tA_236 (Nat.le_of_ble_eq_true rfl) (by rw [lA_236]; omega) (Nat.le_of_ble_eq_true rfl) dX6_level_44 ?_
      refine wp_mem (u2_at hs1) ?_
      refine wp_iload_n dX6_level_45 rfl ?_
      refine wp_sipush (v := 10000) dX6_level_46 (by decide) ?_
      refine wp_iadd dX6_level_49 ?_
      exact wp_iret dX6_level_50 rfl rfl rfl (hK h19 k hk rfl M1 hH)
    · refine wp_bipush (v := (-2)) dX6_level_22 (by decide) ?_
      exact wp_iret dX6_level_24 rfl rfl rfl (hE2 h4 h19)
  · refine wp_iconst (v := (-1)) dX6_level_7 (by decide) ?_
    exact wp_iret dX6_level_8 rfl rfl rfl (hE1 h4)

def whyN (sg : Nat → Int32) (m : Int32) : Int32 := if 1 ≤ m ∧ m ≤ 99 then (if 99999 < sg 3 + m then -5 else 0) else -2
set_option maxRecDepth 100000 in
set_option maxHeartbeats 4000000 in
theorem s_X6_whyNotPassed {γ : Gm} {l : Launch} {M : Mm} {R : Rm} {K : KT} {m : Int32} {sg : Nat → Int32} (hs : M 236 = sg) (hM : RM R) (hK : K (some (.int (whyN sg m))) 243 M R) : CL γ l mX6_whyNotPassed 1 243 243 [.ref 235, .int m] M R K := by
  show WP γ l mX6_whyNotPassed 1 243 243 0 [some (.ref 235), some (.int m)] [] 243 M R K
  unfold whyN at hK
  refine wp_iload_n dX6_whyNotPassed_0 rfl ?_
  refine wp_iconst (v := 1) dX6_whyNotPassed_1 (by decide) ?_
  refine wp_bipush (v := 99) dX6_whyNotPassed_2 (by decide) ?_
  refine wp_cS3 (z := mX6_within) (n' := 243) kX6_39 dX6_whyNotPassed_4 (Nat.le_of_ble_eq_true rfl) (Nat.le_of_ble_eq_true rfl) (Nat.le_of_ble_eq_true rfl) (Nat.le_refl _) (Nat.le_refl _) (s_X6_within (wp_af ?_))
  refine wp_bq_ne (tgt := 15) dX6_whyNotPassed_7 (by decide) (fun h7 => ?_) (fun h7 => ?_)
  · refine wp_aload_n dX6_whyNotPassed_15 rfl ?_
    refine wp_getQ fX6_7 tA_235 rfl hM.f0 (by decide) (Nat.le_of_ble_eq_true rfl) dX6_whyNotPassed_16 ?_
    refine wp_iconst (v := 3) dX6_whyNotPassed_19 (by decide) ?_
    refine wp_iadn (i := 3) rfl tA_236 (Nat.le_of_ble_eq_true rfl) (by rw [lA_236]; omega) (Nat.le_of_ble_eq_true rfl) dX6_whyNotPassed_20 (congrFun hs _) ?_
    refine wp_iload_n dX6_whyNotPassed_21 rfl ?_
    refine wp_iadd dX6_whyNotPassed_22 ?_
    refine wp_ldc (v := 99999) dX6_whyNotPassed_23 q695 ?_
    refine wp_icmp_le (tgt := 33) dX6_whyNotPassed_25 (by decide) (fun h25 => ?_) (fun h25 => ?_)
    · have g25 := Int32.not_lt.mpr h25
      refine wp_iconst (v := 0) dX6_whyNotPassed_33 (by decide) ?_
      exact wp_iret dX6_whyNotPassed_34 rfl rfl rfl (by (repeat' split at hK) <;> first | exact hK | contradiction | (exfalso; rename_i q; exact h66 q.1) | (exfalso; simp_all; done))
    · have g25 := Int32.not_le.mp h25
      refine wp_bipush (v := (-5)) dX6_whyNotPassed_28 (by decide) ?_
      refine wp_goto (tgt := 34) dX6_whyNotPassed_30 (by decide) ?_
      exact wp_iret dX6_whyNotPassed_34 rfl rfl rfl (by (repeat' split at hK) <;> first | exact hK | contradiction | (exfalso; rename_i q; exact h66 q.1) | (exfalso; simp_all; done))
  · refine wp_bipush (v := (-2)) dX6_whyNotPassed_10 (by decide) ?_
    refine wp_goto (tgt := 34) dX6_whyNotPassed_12 (by decide) ?_
    exact wp_iret dX6_whyNotPassed_34 rfl rfl rfl (by (repeat' split at hK) <;> first | exact hK | contradiction | (exfalso; rename_i q; exact h66 q.1) | (exfalso; simp_all; done))

theorem whyN_in {sg : Nat → Int32} {m : Int32} (h : ¬ whyN sg m < 0) : ∃ k, 1 ≤ k ∧ k < 100 ∧ m = nI k := by
  unfold whyN at h
  split at h
  · rename_i q
    obtain ⟨j, h1, h2⟩ := nI_of2 (M := 99) (n := 99) (by decide) (Int32.not_lt.mpr (Int32.le_trans (by decide) q.1)) q.2
    refine ⟨j, ?_, by omega, h2⟩
    rw [h2] at q
    exact (nI_leI (a := 1) (by decide) (by omega)).mp q.1
  · exact absurd (by decide) h
set_option maxRecDepth 100000 in
set_option maxHeartbeats 4000000 in
theorem s_X6_pass {γ : Gm} {l : Launch} {M : Mm} {R : Rm} {K : KT} {rc np ng : Nat} {m : Int32} {sg : Nat → Int32} (hs : M 236 = sg) (hM : RM R) (hrc : M 235 3 = nI rc) (h6 : rc ≤ 6) (ho : Ok0 sg np ng) (hE : whyN sg m < 0 → K (some (.int (whyN sg m))) 243 M R) (hK : ¬ whyN sg m < 0 → ∀ k, 1 ≤ k → k < 100 → m = nI k → ∀ M1, HP M M1 rc → K (some (.int (psC np ng sg k))) 243 (up M1 236 (psF np ng sg k)) R) : CL γ l mX6_pass 5 243 243 [.ref 235, .int m] M R K := by
  show WP γ l mX6_pass 5 243 243 0 [some (.ref 235), some (.int m), none] [] 243 M R K
  refine wp_aload_n dX6_pass_0 rfl ?_
  refine wp_iload_n dX6_pass_1 rfl ?_
  refine wp_cV1 (z := mX6_whyNotPassed) (n' := 243) kX6_113 dX6_pass_2 (Nat.le_of_ble_eq_true rfl) (Nat.le_of_ble_eq_true rfl) tA_235 (Nat.le_of_ble_eq_true rfl) (Nat.le_of_ble_eq_true rfl) (Nat.le_refl _) (Nat.le_refl _) (s_X6_whyNotPassed hs hM (wp_af ?_))
  refine wp_topv (fun why e_why => ?_)
  refine wp_istore_n (L' := [some (.ref 235), some (.int m), some (.int why)]) dX6_pass_5 (by decide) rfl ?_
  refine wp_iload_n dX6_pass_6 rfl ?_
  refine wp_if_ge (tgt := 12) dX6_pass_7 (by decide) (fun h7 => ?_) (fun h7 => ?_)
  · have h7b : ¬ whyN sg m < 0 := e_why ▸ Int32.not_lt.mpr h7
    obtain ⟨k, hk1, hk, e_m⟩ := whyN_in h7b
    subst e_m
    refine wp_aload_n dX6_pass_12 rfl ?_
    refine wp_cV0 (z := mX6_record) (n' := 243) kX6_84 dX6_pass_13 (Nat.le_of_ble_eq_true rfl) (Nat.le_of_ble_eq_true rfl) tA_235 (Nat.le_of_ble_eq_true rfl) (Nat.le_of_ble_eq_true rfl) (Nat.le_refl _) (Nat.le_refl _) (s_X6_record hM hrc h6 (fun M1 hH => wp_af0 ?_))
    have hs1 : M1 236 = sg := (hH.1 _ (by decide) (by decide)).trans hs
    refine wp_aload_n dX6_pass_16 rfl ?_
    refine wp_iload_n dX6_pass_17 rfl ?_
    refine wp_cV1 (z := mX6_passes) (n' := 243) kX6_116 dX6_pass_18 (Nat.le_of_ble_eq_true rfl) (Nat.le_of_ble_eq_true rfl) tA_235 (Nat.le_of_ble_eq_true rfl) (Nat.le_of_ble_eq_true rfl) (Nat.le_refl _) (Nat.le_refl _) (s_X6_passes hs1 hM (by omega) ho (wp_af ?_))
    exact wp_iret dX6_pass_21 rfl rfl rfl (hK h7b k hk1 hk rfl M1 hH)
  · have h7b : whyN sg m < 0 := e_why ▸ Int32.not_le.mp h7
    refine wp_iload_n dX6_pass_10 rfl ?_
    exact wp_iret dX6_pass_11 rfl rfl rfl (e_why ▸ hE h7b)

