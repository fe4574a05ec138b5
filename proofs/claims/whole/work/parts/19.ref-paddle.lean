/-! THE REFERENCE: a paddle comes -/
def psn (sg : Nat → Int32) (c : Int32) : Nat → Nat
  | 0 => 0
  | k + 1 => if c < sg (86 + 6 * k) then psn sg c k else k + 1
theorem psn_le (sg : Nat → Int32) (c : Int32) : ∀ n, psn sg c n ≤ n
  | 0 => Nat.le_refl _
  | k + 1 => by
    unfold psn
    split
    · exact Nat.le_succ_of_le (psn_le sg c k)
    · exact Nat.le_refl _
/-- the paddles from rank k on, of n, a rank higher -/
def shN (sg : Nat → Int32) (n k : Nat) : Nat → Int32 := fun j => if 92 + 6 * k ≤ j ∧ j < 92 + 6 * n then sg (j - 6) else sg j
def shI (ro : Nat → Int32) (k i : Nat) : Nat → Int32 := fun j => if 86 + 6 * k ≤ j ∧ j < 86 + 6 * k + i then ro (j - 6) else ro j
def pf6 (ro : Nat → Int32) (k : Nat) (c so he pe f : Int32) : Nat → Int32 := up (up (up (up (up (up ro (86 + 6 * k + 0) c) (86 + 6 * k + 1) so) (86 + 6 * k + 2) he) (86 + 6 * k + 3) pe) (86 + 6 * k + 4) f) (86 + 6 * k + 5) 1
def inF (sg : Nat → Int32) (n : Nat) (c so he pe f : Int32) : Nat → Int32 := up (pf6 (shN sg n (psn sg c n)) (psn sg c n) c so he pe f) 4 (nI (n + 1))
def puF (sg : Nat → Int32) (np : Nat) (c so he pe f : Int32) : Nat → Int32 := if rkU sg c np = -6 then inF sg np c so he pe f else inF (lfF sg np (rkU sg c np).toNatClampNeg) (np - 1) c so he pe f
theorem shN_0 (sg : Nat → Int32) (n : Nat) : shN sg n n = sg := by
  funext j
  rw [shN, if_neg (by omega)]
theorem shI_0 (ro : Nat → Int32) (k : Nat) : shI ro k 0 = ro := by
  funext j
  rw [shI, if_neg (by omega)]
theorem shI_s {ro : Nat → Int32} {k i : Nat} (hk : 1 ≤ k) (hi : i < 6) : up (shI ro k i) (86 + 6 * k + i) (shI ro k i (86 + 6 * (k - 1) + i)) = shI ro k (i + 1) := by
  funext j
  by_cases hj : j = 86 + 6 * k + i
  · subst hj
    rw [up_s, shI, shI, if_neg (by omega), if_pos (by omega)]
    congr 1
    omega
  · rw [up_n _ _ hj]
    by_cases h2 : 86 + 6 * k ≤ j ∧ j < 86 + 6 * k + i
    · rw [shI, shI, if_pos h2, if_pos (by omega)]
    · rw [shI, shI, if_neg h2, if_neg (by omega)]
theorem shI_6 {sg : Nat → Int32} {n k : Nat} (hk : 1 ≤ k) (hn : k ≤ n) : shI (shN sg n k) k 6 = shN sg n (k - 1) := by
  funext j
  by_cases h1 : 86 + 6 * k ≤ j ∧ j < 86 + 6 * k + 6
  · rw [shI, if_pos h1, shN, if_neg (by omega), shN, if_pos (by omega)]
  · rw [shI, if_neg h1]
    by_cases h2 : 92 + 6 * k ≤ j ∧ j < 92 + 6 * n
    · rw [shN, if_pos h2, shN, if_pos (by omega)]
    · rw [shN, if_neg h2, shN, if_neg (by omega)]
set_option maxRecDepth 100000 in
set_option maxHeartbeats 4000000 in
theorem i_X6_puts {γ : Gm} {l : Launch} {M : Mm} {R : Rm} {K : KT} {n : Nat} {c so he pe f : Int32} {sg : Nat → Int32} (hM : RM R) (hn : sg 4 = nI n) (h6 : n < 6) (hK : K none 243 (up M 236 (inF sg n c so he pe f)) R) : WP γ l mX6_puts 2 243 243 19 [some (.ref 235), some (.int c), some (.int so), some (.int he), some (.int pe), some (.int f), none, none] [] 243 (up M 236 sg) R K := by
  have fin : ∀ k, k = psn sg c n → WP γ l mX6_puts 2 243 243 85 [some (.ref 235), some (.int c), some (.int so), some (.int he), some (.int pe), some (.int f), some (.int (nI k)), none] [] 243 (up M 236 (shN sg n k)) R K := by
    intro k hk
    have hk2 := psn_le sg c n
    refine wp_aload_n dX6_puts_85 rfl ?_
    refine wp_iload dX6_puts_86 rfl ?_
    refine wp_iconst (v := 0) dX6_puts_88 (by decide) ?_
    refine wp_iload_n dX6_puts_89 rfl ?_
    refine wp_cV3 (z := mX6_setPaddle) (n' := 243) kX6_54 dX6_puts_90 (Nat.le_of_ble_eq_true rfl) (Nat.le_of_ble_eq_true rfl) tA_235 (Nat.le_of_ble_eq_true rfl) (Nat.le_of_ble_eq_true rfl) (Nat.le_refl _) (Nat.le_refl _) (s_X6_setPaddle (up_s _ _ _) (k := k) (j := 0) hM (by omega) (by omega) (wp_af0 ?_))
    refine wp_mem (up_up _ _ _ _) ?_
    refine wp_aload_n dX6_puts_93 rfl ?_
    refine wp_iload dX6_puts_94 rfl ?_
    refine wp_iconst (v := 1) dX6_puts_96 (by decide) ?_
    refine wp_iload_n dX6_puts_97 rfl ?_
    refine wp_cV3 (z := mX6_setPaddle) (n' := 243) kX6_54 dX6_puts_98 (Nat.le_of_ble_eq_true rfl) (Nat.le_of_ble_eq_true rfl) tA_235 (Nat.le_of_ble_eq_true rfl) (Nat.le_of_ble_eq_true rfl) (Nat.le_refl _) (Nat.le_refl _) (s_X6_setPaddle (up_s _ _ _) (k := k) (j := 1) hM (by omega) (by omega) (wp_af0 ?_))
    refine wp_mem (up_up _ _ _ _) ?_
    refine wp_aload_n dX6_puts_101 rfl ?_
    refine wp_iload dX6_puts_102 rfl ?_
    refine wp_iconst (v := 2) dX6_puts_104 (by decide) ?_
    refine wp_iload_n dX6_puts_105 rfl ?_
    refine wp_cV3 (z := mX6_setPaddle) (n' := 243) kX6_54 dX6_puts_106 (Nat.le_of_ble_eq_true rfl) (Nat.le_of_ble_eq_true rfl) tA_235 (Nat.le_of_ble_eq_true rfl) (Nat.le_of_ble_eq_true rfl) (Nat.le_refl _) (Nat.le_refl _) (s_X6_setPaddle (up_s _ _ _) (k := k) (j := 2) hM (by omega) (by omega) (wp_af0 ?_))
    refine wp_mem (up_up _ _ _ _) ?_
    refine wp_aload_n dX6_puts_109 rfl ?_
    refine wp_iload dX6_puts_110 rfl ?_
    refine wp_iconst (v := 3) dX6_puts_112 (by decide) ?_
    refine wp_iload dX6_puts_113 rfl ?_
    refine wp_cV3 (z := mX6_setPaddle) (n' := 243) kX6_54 dX6_puts_115 (Nat.le_of_ble_eq_true rfl) (Nat.le_of_ble_eq_true rfl) tA_235 (Nat.le_of_ble_eq_true rfl) (Nat.le_of_ble_eq_true rfl) (Nat.le_refl _) (Nat.le_refl _) (s_X6_setPaddle (up_s _ _ _) (k := k) (j := 3) hM (by omega) (by omega) (wp_af0 ?_))
    refine wp_mem (up_up _ _ _ _) ?_
    refine wp_aload_n dX6_puts_118 rfl ?_
    refine wp_iload dX6_puts_119 rfl ?_
    refine wp_iconst (v := 4) dX6_puts_121 (by decide) ?_
    refine wp_iload dX6_puts_122 rfl ?_
    refine wp_cV3 (z := mX6_setPaddle) (n' := 243) kX6_54 dX6_puts_124 (Nat.le_of_ble_eq_true rfl) (Nat.le_of_ble_eq_true rfl) tA_235 (Nat.le_of_ble_eq_true rfl) (Nat.le_of_ble_eq_true rfl) (Nat.le_refl _) (Nat.le_refl _) (s_X6_setPaddle (up_s _ _ _) (k := k) (j := 4) hM (by omega) (by omega) (wp_af0 ?_))
    refine wp_mem (up_up _ _ _ _) ?_
    refine wp_aload_n dX6_puts_127 rfl ?_
    refine wp_iload dX6_puts_128 rfl ?_
    refine wp_iconst (v := 5) dX6_puts_130 (by decide) ?_
    refine wp_iconst (v := 1) dX6_puts_131 (by decide) ?_
    refine wp_cV3 (z := mX6_setPaddle) (n' := 243) kX6_54 dX6_puts_132 (Nat.le_of_ble_eq_true rfl) (Nat.le_of_ble_eq_true rfl) tA_235 (Nat.le_of_ble_eq_true rfl) (Nat.le_of_ble_eq_true rfl) (Nat.le_refl _) (Nat.le_refl _) (s_X6_setPaddle (up_s _ _ _) (k := k) (j := 5) hM (by omega) (by omega) (wp_af0 ?_))
    refine wp_mem (up_up _ _ _ _) ?_
    refine wp_aload_n dX6_puts_135 rfl ?_
    refine wp_getQ fX6_7 tA_235 rfl hM.f0 (by decide) (Nat.le_of_ble_eq_true rfl) dX6_puts_136 ?_
    refine wp_iconst (v := 4) dX6_puts_139 (by decide) ?_
    refine wp_dup2 dX6_puts_140 rfl rfl ?_
    refine wp_iadn (i := 4) (v := nI n) rfl tA_236 (Nat.le_of_ble_eq_true rfl) (by rw [lA_236]; omega) (Nat.le_of_ble_eq_true rfl) dX6_puts_141 ((congrFun (up_s _ _ _) _).trans ((by rw [up_n _ _ (by omega), up_n _ _ (by omega), up_n _ _ (by omega), up_n _ _ (by omega), up_n _ _ (by omega), up_n _ _ (by omega), shN, if_neg (by omega)]; exact hn))) ?_
    refine wp_iconst (v := 1) dX6_puts_142 (by decide) ?_
    refine wp_iadd dX6_puts_143 ?_
    refine wp_top (nI_1 _) ?_
    refine wp_iast (i := 4) rfl tA_236 (Nat.le_of_ble_eq_true rfl) (by rw [lA_236]; omega) (Nat.le_of_ble_eq_true rfl) dX6_puts_144 ?_
    refine wp_mem (u2_up _ _ _ _ _) ?_
    exact wp_vret dX6_puts_145 rfl rfl (by rw [hk]; exact hK)
  have loop : ∀ (q k : Nat), k < q → k ≤ n → psn sg c k = psn sg c n → WP γ l mX6_puts 2 243 243 27 [some (.ref 235), some (.int c), some (.int so), some (.int he), some (.int pe), some (.int f), some (.int (nI k)), none] [] 243 (up M 236 (shN sg n k)) R K := by
    intro q
    induction q with
    | zero => intro k h; omega
    | succ q ih =>
      intro k hq hk hps
      refine wp_iload dX6_puts_27 rfl ?_
      refine wp_ifN_le (a := k) (tgt := 85) dX6_puts_29 (by decide) rfl (by omega) (fun h29 => ?_) (fun h29 => ?_)
      · first | exact fin k (by rw [← hps, g42]) | exact fin k (by rw [← hps, h29]; rfl)
      · refine wp_aload_n dX6_puts_32 rfl ?_
        refine wp_iload dX6_puts_33 rfl ?_
        refine wp_iconst (v := 1) dX6_puts_35 (by decide) ?_
        refine wp_isub dX6_puts_36 ?_
        refine wp_top (ix_sub (a := k) (b := 1) rfl rfl (by omega)) ?_
        refine wp_iconst (v := 0) dX6_puts_37 (by decide) ?_
        refine wp_cV2 (z := mX6_paddlePart) (n' := 243) kX6_43 dX6_puts_38 (Nat.le_of_ble_eq_true rfl) (Nat.le_of_ble_eq_true rfl) tA_235 (Nat.le_of_ble_eq_true rfl) (Nat.le_of_ble_eq_true rfl) (Nat.le_refl _) (Nat.le_refl _) (s_X6_paddlePart (up_s _ _ _) (k := k - 1) (j := 0) hM (by omega) (by omega) (wp_af ?_))
        refine wp_iload_n dX6_puts_41 rfl ?_
        refine wp_icmp_le (tgt := 85) dX6_puts_42 (by decide) (fun h42 => ?_) (fun h42 => ?_)
        · have g42 : psn sg c k = k := by
            obtain ⟨i, rfl⟩ : ∃ i, k = i + 1 := ⟨k - 1, by omega⟩
            rw [shN, if_neg (by omega), Nat.add_sub_cancel, Nat.add_zero] at h42
            unfold psn
            rw [if_neg (Int32.not_lt.mpr h42)]
          first | exact fin k (by rw [← hps, g42]) | exact fin k (by rw [← hps, h29]; rfl)
        · have g42 : psn sg c k = psn sg c (k - 1) := by
            obtain ⟨i, rfl⟩ : ∃ i, k = i + 1 := ⟨k - 1, by omega⟩
            rw [shN, if_neg (by omega), Nat.add_sub_cancel, Nat.add_zero] at h42
            rw [psn, if_pos (Int32.not_le.mp h42), Nat.add_sub_cancel]
          refine wp_iconst (v := 0) dX6_puts_45 (by decide) ?_
          refine wp_istore (L' := [some (.ref 235), some (.int c), some (.int so), some (.int he), some (.int pe), some (.int f), some (.int (nI k)), some (.int _)]) dX6_puts_46 (by decide) rfl ?_
          have l2 : ∀ (q2 i : Nat) (ro : Nat → Int32), ro = shI (shN sg n k) k i → 6 - i < q2 → i ≤ 6 → WP γ l mX6_puts 2 243 243 48 [some (.ref 235), some (.int c), some (.int so), some (.int he), some (.int pe), some (.int f), some (.int (nI k)), some (.int (nI i))] [] 243 (up M 236 ro) R K := by
            intro q2
            induction q2 with
            | zero => intro i ro _ h; omega
            | succ q2 ih2 =>
              intro i ro hro hq2 hi
              refine wp_iload dX6_puts_48 rfl ?_
              refine wp_bipush (v := 6) dX6_puts_50 (by decide) ?_
              refine wp_icN_ge (a := i) (b := 6) (tgt := 79) dX6_puts_52 (by decide) rfl rfl (by omega) (by omega) (fun h52 => ?_) (fun h52 => ?_)
              · refine wp_iinc (v := nI (k - 1)) (L' := [some (.ref 235), some (.int c), some (.int so), some (.int he), some (.int pe), some (.int f), some (.int (nI (k - 1))), some (.int (nI i))]) dX6_puts_79 (by decide) rfl (dec_1 (by omega)) rfl ?_
                refine wp_goto (tgt := 27) dX6_puts_82 (by decide) ?_
                refine wp_drop [some (.ref 235), some (.int c), some (.int so), some (.int he), some (.int pe), some (.int f), some (.int (nI (k - 1))), none] (by repeat constructor) ?_
                rw [hro, show i = 6 by omega, shI_6 (by omega) (by omega)]
                exact ih (k - 1) (by omega) (by omega) (by rw [← g42, hps])
              · refine wp_aload_n dX6_puts_55 rfl ?_
                refine wp_iload dX6_puts_56 rfl ?_
                refine wp_iload dX6_puts_58 rfl ?_
                refine wp_aload_n dX6_puts_60 rfl ?_
                refine wp_iload dX6_puts_61 rfl ?_
                refine wp_iconst (v := 1) dX6_puts_63 (by decide) ?_
                refine wp_isub dX6_puts_64 ?_
                refine wp_top (ix_sub (a := k) (b := 1) rfl rfl (by omega)) ?_
                refine wp_iload dX6_puts_65 rfl ?_
                refine wp_cV2 (z := mX6_paddlePart) (n' := 243) kX6_43 dX6_puts_67 (Nat.le_of_ble_eq_true rfl) (Nat.le_of_ble_eq_true rfl) tA_235 (Nat.le_of_ble_eq_true rfl) (Nat.le_of_ble_eq_true rfl) (Nat.le_refl _) (Nat.le_refl _) (s_X6_paddlePart (up_s _ _ _) (k := k - 1) (j := i) hM (by omega) (by omega) (wp_af ?_))
                refine wp_cV3 (z := mX6_setPaddle) (n' := 243) kX6_54 dX6_puts_70 (Nat.le_of_ble_eq_true rfl) (Nat.le_of_ble_eq_true rfl) tA_235 (Nat.le_of_ble_eq_true rfl) (Nat.le_of_ble_eq_true rfl) (Nat.le_refl _) (Nat.le_refl _) (s_X6_setPaddle (up_s _ _ _) (k := k) (j := i) hM (by omega) (by omega) (wp_af0 ?_))
                refine wp_mem (up_up _ _ _ _) ?_
                refine wp_iinc (v := nI (i + 1)) (L' := [some (.ref 235), some (.int c), some (.int so), some (.int he), some (.int pe), some (.int f), some (.int (nI k)), some (.int (nI (i + 1)))]) dX6_puts_73 (by decide) rfl (inc_1 _) rfl ?_
                refine wp_goto (tgt := 48) dX6_puts_76 (by decide) ?_
                refine ih2 (i + 1) _ ?_ (by omega) (by omega)
                rw [hro, shI_s (by omega) (by omega)]
          exact l2 7 0 _ (shI_0 _ _).symm (by omega) (by omega)
  refine wp_aload_n dX6_puts_19 rfl ?_
  refine wp_getQ fX6_7 tA_235 rfl hM.f0 (by decide) (Nat.le_of_ble_eq_true rfl) dX6_puts_20 ?_
  refine wp_iconst (v := 4) dX6_puts_23 (by decide) ?_
  refine wp_iadn (i := 4) (v := nI n) rfl tA_236 (Nat.le_of_ble_eq_true rfl) (by rw [lA_236]; omega) (Nat.le_of_ble_eq_true rfl) dX6_puts_24 ((congrFun (up_s _ _ _) _).trans (hn)) ?_
  refine wp_istore (L' := [some (.ref 235), some (.int c), some (.int so), some (.int he), some (.int pe), some (.int f), some (.int (nI n)), none]) dX6_puts_25 (by decide) rfl ?_
  refine wp_mem (M' := up M 236 (shN sg n n)) (by rw [shN_0]) ?_
  exact loop (n + 1) n (by omega) (by omega) rfl

set_option maxRecDepth 100000 in
set_option maxHeartbeats 4000000 in
theorem s_X6_puts {γ : Gm} {l : Launch} {M : Mm} {R : Rm} {K : KT} {np : Nat} {c so he pe f : Int32} {sg : Nat → Int32} (hs : M 236 = sg) (hM : RM R) (hn : sg 4 = nI np) (h6 : np ≤ 6) (hw : ¬ (rkU sg c np = -6 ∧ np = 6)) (hK : K none 243 (up M 236 (puF sg np c so he pe f)) R) : CL γ l mX6_puts 2 243 243 [.ref 235, .int c, .int so, .int he, .int pe, .int f] M R K := by
  show WP γ l mX6_puts 2 243 243 0 [some (.ref 235), some (.int c), some (.int so), some (.int he), some (.int pe), some (.int f), none, none] [] 243 M R K
  refine wp_aload_n dX6_puts_0 rfl ?_
  refine wp_iload_n dX6_puts_1 rfl ?_
  refine wp_cV1 (z := mX6_rankIn) (n' := 243) kX6_87 dX6_puts_2 (Nat.le_of_ble_eq_true rfl) (Nat.le_of_ble_eq_true rfl) tA_235 (Nat.le_of_ble_eq_true rfl) (Nat.le_of_ble_eq_true rfl) (Nat.le_refl _) (Nat.le_refl _) (s_X6_rankIn hs hM hn h6 (wp_af ?_))
  refine wp_bipush (v := (-6)) dX6_puts_5 (by decide) ?_
  refine wp_icmp_eq (tgt := 19) dX6_puts_7 (by decide) (fun h7 => ?_) (fun h7 => ?_)
  · rw [puF, if_pos h7] at hK
    first | (refine wp_mem (M' := up M 236 sg) (by rw [← hs, up_eta]) ?_; exact i_X6_puts hM hn (Nat.lt_of_le_of_ne h6 (fun q => hw ⟨h7, q⟩)) hK) | exact i_X6_puts hM (by rw [lfF, lfN, if_neg (by omega), up_s]) (by omega) hK
  · obtain ⟨k, hk, e_k⟩ := rkU_in (sg := sg) (c := c) (m := np) h7
    rw [puF, if_neg h7, e_k, nI_clamp (by omega)] at hK
    refine wp_aload_n dX6_puts_10 rfl ?_
    refine wp_aload_n dX6_puts_11 rfl ?_
    refine wp_iload_n dX6_puts_12 rfl ?_
    refine wp_cV1 (z := mX6_rankIn) (n' := 243) kX6_87 dX6_puts_13 (Nat.le_of_ble_eq_true rfl) (Nat.le_of_ble_eq_true rfl) tA_235 (Nat.le_of_ble_eq_true rfl) (Nat.le_of_ble_eq_true rfl) (Nat.le_refl _) (Nat.le_refl _) (s_X6_rankIn hs hM hn h6 (wp_af ?_))
    refine wp_top (e_k) ?_
    refine wp_cV1 (z := mX6_lifts) (n' := 243) kX6_90 dX6_puts_16 (Nat.le_of_ble_eq_true rfl) (Nat.le_of_ble_eq_true rfl) tA_235 (Nat.le_of_ble_eq_true rfl) (Nat.le_of_ble_eq_true rfl) (Nat.le_refl _) (Nat.le_refl _) (s_X6_lifts hs hM hn h6 hk (wp_af0 ?_))
    first | (refine wp_mem (M' := up M 236 sg) (by rw [← hs, up_eta]) ?_; exact i_X6_puts hM hn (Nat.lt_of_le_of_ne h6 (fun q => hw ⟨h7, q⟩)) hK) | exact i_X6_puts hM (by rw [lfF, lfN, if_neg (by omega), up_s]) (by omega) hK

theorem whyP_ok {sg : Nat → Int32} {np : Nat} {c so he pe f : Int32} (h : ¬ whyP sg np c so he pe f < 0) : ¬ (rkU sg c np = -6 ∧ np = 6) := by
  intro q
  apply h
  unfold whyP
  split
  · split
    · first | decide | (rw [if_pos q]; decide)
    · decide
  · decide
set_option maxRecDepth 100000 in
set_option maxHeartbeats 4000000 in
theorem s_X6_paddle {γ : Gm} {l : Launch} {M : Mm} {R : Rm} {K : KT} {rc np : Nat} {c so he pe f : Int32} {sg : Nat → Int32} (hs : M 236 = sg) (hM : RM R) (hrc : M 235 3 = nI rc) (h6 : rc ≤ 6) (hn : sg 4 = nI np) (hp : np ≤ 6) (hE : whyP sg np c so he pe f < 0 → K (some (.int (whyP sg np c so he pe f))) 243 M R) (hK : ¬ whyP sg np c so he pe f < 0 → ∀ M1, HP M M1 rc → K (some (.int (puF sg np c so he pe f 4))) 243 (up M1 236 (puF sg np c so he pe f)) R) : CL γ l mX6_paddle 3 243 243 [.ref 235, .int c, .int so, .int he, .int pe, .int f] M R K := by
  show WP γ l mX6_paddle 3 243 243 0 [some (.ref 235), some (.int c), some (.int so), some (.int he), some (.int pe), some (.int f), none] [] 243 M R K
  refine wp_aload_n dX6_paddle_0 rfl ?_
  refine wp_iload_n dX6_paddle_1 rfl ?_
  refine wp_iload_n dX6_paddle_2 rfl ?_
  refine wp_iload_n dX6_paddle_3 rfl ?_
  refine wp_iload dX6_paddle_4 rfl ?_
  refine wp_iload dX6_paddle_6 rfl ?_
  refine wp_cV5 (z := mX6_whyNoPaddle) (n' := 243) kX6_94 dX6_paddle_8 (Nat.le_of_ble_eq_true rfl) (Nat.le_of_ble_eq_true rfl) tA_235 (Nat.le_of_ble_eq_true rfl) (Nat.le_of_ble_eq_true rfl) (Nat.le_refl _) (Nat.le_refl _) (s_X6_whyNoPaddle hs hM hn hp (wp_af ?_))
  refine wp_topv (fun why e_why => ?_)
  refine wp_istore (L' := [some (.ref 235), some (.int c), some (.int so), some (.int he), some (.int pe), some (.int f), some (.int why)]) dX6_paddle_11 (by decide) rfl ?_
  refine wp_iload dX6_paddle_13 rfl ?_
  refine wp_if_ge (tgt := 21) dX6_paddle_15 (by decide) (fun h15 => ?_) (fun h15 => ?_)
  · have h15b : ¬ whyP sg np c so he pe f < 0 := e_why ▸ Int32.not_lt.mpr h15
    refine wp_aload_n dX6_paddle_21 rfl ?_
    refine wp_cV0 (z := mX6_record) (n' := 243) kX6_84 dX6_paddle_22 (Nat.le_of_ble_eq_true rfl) (Nat.le_of_ble_eq_true rfl) tA_235 (Nat.le_of_ble_eq_true rfl) (Nat.le_of_ble_eq_true rfl) (Nat.le_refl _) (Nat.le_refl _) (s_X6_record hM hrc h6 (fun M1 hH => wp_af0 ?_))
    have hs1 : M1 236 = sg := (hH.1 _ (by decide) (by decide)).trans hs
    refine wp_aload_n dX6_paddle_25 rfl ?_
    refine wp_iload_n dX6_paddle_26 rfl ?_
    refine wp_iload_n dX6_paddle_27 rfl ?_
    refine wp_iload_n dX6_paddle_28 rfl ?_
    refine wp_iload dX6_paddle_29 rfl ?_
    refine wp_iload dX6_paddle_31 rfl ?_
    refine wp_cV5 (z := mX6_puts) (n' := 243) kX6_98 dX6_paddle_33 (Nat.le_of_ble_eq_true rfl) (Nat.le_of_ble_eq_true rfl) tA_235 (Nat.le_of_ble_eq_true rfl) (Nat.le_of_ble_eq_true rfl) (Nat.le_refl _) (Nat.le_refl _) (s_X6_puts hs1 hM hn hp (whyP_ok h15b) (wp_af0 ?_))
    refine wp_aload_n dX6_paddle_36 rfl ?_
    refine wp_getQ fX6_7 tA_235 rfl hM.f0 (by decide) (Nat.le_of_ble_eq_true rfl) dX6_paddle_37 ?_
    refine wp_iconst (v := 4) dX6_paddle_40 (by decide) ?_
    refine wp_iadn (i := 4) rfl tA_236 (Nat.le_of_ble_eq_true rfl) (by rw [lA_236]; omega) (Nat.le_of_ble_eq_true rfl) dX6_paddle_41 (congrFun (up_s _ _ _) _) ?_
    exact wp_iret dX6_paddle_42 rfl rfl rfl (hK h15b M1 hH)
  · have h15b : whyP sg np c so he pe f < 0 := e_why ▸ Int32.not_le.mp h15
    refine wp_iload dX6_paddle_18 rfl ?_
    exact wp_iret dX6_paddle_20 rfl rfl rfl (e_why ▸ hE h15b)

