/-! THE CLASS: the reading of orders -/
theorem neg1_mul (x : Int32) : (-1 : Int32) * x = -x := by rw [Int32.neg_mul, Int32.one_mul]
theorem one1_mul (x : Int32) : (1 : Int32) * x = x := Int32.one_mul x
set_option maxRecDepth 100000 in
set_option maxHeartbeats 4000000 in
theorem s_X2_readSort {γ : Gm} {l : Launch} {M : Mm} {R : Rm} {K : KT} {M0 : Mm} {tx : Nat → Int32} {pl a : Nat} {k t s v p f : Int32}  (hC : RC R) (hX : PD M0 M tx pl a k t s v p f) (hp : pl ≤ 80) (ha : a ≤ 201) (hK : ∀ M1 e s1, (rdS tx pl a = none → e = a) → (∀ q, rdS tx pl a = some q → e = a + 1 ∧ s1 = nI q) → PD M0 M1 tx pl e k t s1 v p f → K (some (.int (b01 ((rdS tx pl a).isSome = true)))) 243 M1 R) : CL γ l mX2_readSort 1 243 243 [.ref 29] M R K := by
  show WP γ l mX2_readSort 1 243 243 0 [some (.ref 29)] [] 243 M R K
  refine wp_aload_n dX2_readSort_0 rfl ?_
  refine wp_cV0 (z := mX2_signHere) (n' := 243) kX2_36 dX2_readSort_1 (Nat.le_of_ble_eq_true rfl) (Nat.le_of_ble_eq_true rfl) tA_29 (Nat.le_of_ble_eq_true rfl) (Nat.le_of_ble_eq_true rfl) (Nat.le_refl _) (Nat.le_refl _) (s_X2_signHere hC hX hp ha (wp_af ?_))
  refine wp_lswitch [(98, 64), (102, 48), (115, 56), (116, 72)] 80 dX2_readSort_4 (by decide +kernel) (by decide +kernel) ?_
  refine wp_sw (fun h4_0 => ?_) (fun h4_0 => ?_)
  · have g : nx tx pl a 98 := (chC_nx (by decide)).mp h4_0
    have e1 : rdS tx pl a = some 2 := by unfold rdS; rw [if_neg (nx_ne g (by decide)), if_neg (nx_ne g (by decide)), if_pos g]
    refine wp_aload_n dX2_readSort_64 rfl ?_
    refine wp_iconst (v := 2) dX2_readSort_65 (by decide) ?_
    refine wp_putI pX2_67 tA_29 rfl ⟨rfl, rfl⟩ (Nat.le_of_ble_eq_true rfl) dX2_readSort_66 ?_
    refine wp_goto (tgt := 82) dX2_readSort_69 (by decide) ?_
    refine wp_aload_n dX2_readSort_82 rfl ?_
    refine wp_dup dX2_readSort_83 rfl ?_
    refine wp_getJ (v := nI a) fX2_25 tA_29 rfl (Nat.le_of_ble_eq_true rfl) dX2_readSort_84 ((hX.w5 _).pa) ?_
    refine wp_iconst (v := 1) dX2_readSort_87 (by decide) ?_
    refine wp_iadd dX2_readSort_88 ?_
    refine wp_top (z := nI (a + 1)) (nI_1 a) ?_
    refine wp_putI pX2_25 tA_29 rfl ⟨rfl, rfl⟩ (Nat.le_of_ble_eq_true rfl) dX2_readSort_89 ?_
    refine wp_iconst (v := 1) dX2_readSort_92 (by decide) ?_
    exact wp_iret dX2_readSort_93 rfl rfl rfl (by
    have := hK _ (a + 1) _ (fun hq => by rw [e1] at hq; cases hq) (fun q hq => by rw [e1] at hq; cases hq; exact ⟨rfl, rfl⟩) ((hX.w5 _).w2 (a + 1))
    rwa [b01_t (by rw [e1]; rfl)] at this)
  refine wp_sw (fun h4_1 => ?_) (fun h4_1 => ?_)
  · have g : nx tx pl a 102 := (chC_nx (by decide)).mp h4_1
    have e1 : rdS tx pl a = some 0 := by unfold rdS; rw [if_pos g]
    refine wp_aload_n dX2_readSort_48 rfl ?_
    refine wp_iconst (v := 0) dX2_readSort_49 (by decide) ?_
    refine wp_putI pX2_67 tA_29 rfl ⟨rfl, rfl⟩ (Nat.le_of_ble_eq_true rfl) dX2_readSort_50 ?_
    refine wp_goto (tgt := 82) dX2_readSort_53 (by decide) ?_
    refine wp_aload_n dX2_readSort_82 rfl ?_
    refine wp_dup dX2_readSort_83 rfl ?_
    refine wp_getJ (v := nI a) fX2_25 tA_29 rfl (Nat.le_of_ble_eq_true rfl) dX2_readSort_84 ((hX.w5 _).pa) ?_
    refine wp_iconst (v := 1) dX2_readSort_87 (by decide) ?_
    refine wp_iadd dX2_readSort_88 ?_
    refine wp_top (z := nI (a + 1)) (nI_1 a) ?_
    refine wp_putI pX2_25 tA_29 rfl ⟨rfl, rfl⟩ (Nat.le_of_ble_eq_true rfl) dX2_readSort_89 ?_
    refine wp_iconst (v := 1) dX2_readSort_92 (by decide) ?_
    exact wp_iret dX2_readSort_93 rfl rfl rfl (by
    have := hK _ (a + 1) _ (fun hq => by rw [e1] at hq; cases hq) (fun q hq => by rw [e1] at hq; cases hq; exact ⟨rfl, rfl⟩) ((hX.w5 _).w2 (a + 1))
    rwa [b01_t (by rw [e1]; rfl)] at this)
  refine wp_sw (fun h4_2 => ?_) (fun h4_2 => ?_)
  · have g : nx tx pl a 115 := (chC_nx (by decide)).mp h4_2
    have e1 : rdS tx pl a = some 1 := by unfold rdS; rw [if_neg (nx_ne g (by decide)), if_pos g]
    refine wp_aload_n dX2_readSort_56 rfl ?_
    refine wp_iconst (v := 1) dX2_readSort_57 (by decide) ?_
    refine wp_putI pX2_67 tA_29 rfl ⟨rfl, rfl⟩ (Nat.le_of_ble_eq_true rfl) dX2_readSort_58 ?_
    refine wp_goto (tgt := 82) dX2_readSort_61 (by decide) ?_
    refine wp_aload_n dX2_readSort_82 rfl ?_
    refine wp_dup dX2_readSort_83 rfl ?_
    refine wp_getJ (v := nI a) fX2_25 tA_29 rfl (Nat.le_of_ble_eq_true rfl) dX2_readSort_84 ((hX.w5 _).pa) ?_
    refine wp_iconst (v := 1) dX2_readSort_87 (by decide) ?_
    refine wp_iadd dX2_readSort_88 ?_
    refine wp_top (z := nI (a + 1)) (nI_1 a) ?_
    refine wp_putI pX2_25 tA_29 rfl ⟨rfl, rfl⟩ (Nat.le_of_ble_eq_true rfl) dX2_readSort_89 ?_
    refine wp_iconst (v := 1) dX2_readSort_92 (by decide) ?_
    exact wp_iret dX2_readSort_93 rfl rfl rfl (by
    have := hK _ (a + 1) _ (fun hq => by rw [e1] at hq; cases hq) (fun q hq => by rw [e1] at hq; cases hq; exact ⟨rfl, rfl⟩) ((hX.w5 _).w2 (a + 1))
    rwa [b01_t (by rw [e1]; rfl)] at this)
  refine wp_sw (fun h4_3 => ?_) (fun h4_3 => ?_)
  · have g : nx tx pl a 116 := (chC_nx (by decide)).mp h4_3
    have e1 : rdS tx pl a = some 3 := by unfold rdS; rw [if_neg (nx_ne g (by decide)), if_neg (nx_ne g (by decide)), if_neg (nx_ne g (by decide)), if_pos g]
    refine wp_aload_n dX2_readSort_72 rfl ?_
    refine wp_iconst (v := 3) dX2_readSort_73 (by decide) ?_
    refine wp_putI pX2_67 tA_29 rfl ⟨rfl, rfl⟩ (Nat.le_of_ble_eq_true rfl) dX2_readSort_74 ?_
    refine wp_goto (tgt := 82) dX2_readSort_77 (by decide) ?_
    refine wp_aload_n dX2_readSort_82 rfl ?_
    refine wp_dup dX2_readSort_83 rfl ?_
    refine wp_getJ (v := nI a) fX2_25 tA_29 rfl (Nat.le_of_ble_eq_true rfl) dX2_readSort_84 ((hX.w5 _).pa) ?_
    refine wp_iconst (v := 1) dX2_readSort_87 (by decide) ?_
    refine wp_iadd dX2_readSort_88 ?_
    refine wp_top (z := nI (a + 1)) (nI_1 a) ?_
    refine wp_putI pX2_25 tA_29 rfl ⟨rfl, rfl⟩ (Nat.le_of_ble_eq_true rfl) dX2_readSort_89 ?_
    refine wp_iconst (v := 1) dX2_readSort_92 (by decide) ?_
    exact wp_iret dX2_readSort_93 rfl rfl rfl (by
    have := hK _ (a + 1) _ (fun hq => by rw [e1] at hq; cases hq) (fun q hq => by rw [e1] at hq; cases hq; exact ⟨rfl, rfl⟩) ((hX.w5 _).w2 (a + 1))
    rwa [b01_t (by rw [e1]; rfl)] at this)
  refine wp_sw0 ?_
  refine wp_iconst (v := 0) dX2_readSort_80 (by decide) ?_
  exact wp_iret dX2_readSort_81 rfl rfl rfl (by
  have e1 : rdS tx pl a = none := by
    unfold rdS
    rw [if_neg (fun e => h4_1 ((chC_nx (by decide)).mpr e)), if_neg (fun e => h4_2 ((chC_nx (by decide)).mpr e)), if_neg (fun e => h4_0 ((chC_nx (by decide)).mpr e)), if_neg (fun e => h4_3 ((chC_nx (by decide)).mpr e))]
  have := hK M a s (fun _ => rfl) (fun q hq => by rw [e1] at hq; cases hq) hX
  rwa [b01_f (by rw [e1]; simp)] at this)

set_option maxRecDepth 100000 in
set_option maxHeartbeats 4000000 in
theorem s_X2_readValue {γ : Gm} {l : Launch} {M : Mm} {R : Rm} {K : KT} {M0 : Mm} {tx : Nat → Int32} {pl a : Nat} {k t s v p f : Int32}  (hC : RC R) (hX : PD M0 M tx pl a k t s v p f) (hp : pl ≤ 80) (ha : a ≤ 200) (hK : ∀ M1 e v1, (rdV tx pl a = none → e = vF tx pl a) → (∀ w c, rdV tx pl a = some (w, c) → e = c ∧ v1 = w) → PD M0 M1 tx pl e k t s v1 p f → K (some (.int (b01 ((rdV tx pl a).isSome = true)))) 243 M1 R) : CL γ l mX2_readValue 3 243 243 [.ref 29] M R K := by
  show WP γ l mX2_readValue 3 243 243 0 [some (.ref 29), none, none] [] 243 M R K
  have hvF := (vF_in tx pl a).2
  have bad : rdN tx pl (vF tx pl a) = none → rdV tx pl a = none := fun e => by rw [rdV, e]; rfl
  have good : ∀ w c, rdN tx pl (vF tx pl a) = some (w, c) → rdV tx pl a = some ((if nx tx pl a 45 then -1 else 1) * nI w, c) := fun w c e => by rw [rdV, e]; rfl
  refine wp_aload_n dX2_readValue_0 rfl ?_
  refine wp_bipush (v := 45) dX2_readValue_1 (by decide) ?_
  refine wp_cV1 (z := mX2_accept) (n' := 243) kX2_32 dX2_readValue_3 (Nat.le_of_ble_eq_true rfl) (Nat.le_of_ble_eq_true rfl) tA_29 (Nat.le_of_ble_eq_true rfl) (Nat.le_of_ble_eq_true rfl) (Nat.le_refl _) (Nat.le_refl _) (s_X2_accept hC hX hp (by omega) (by decide) (fun M1 g1 => (wp_af ?_)))
  refine wp_istore_n (L' := [some (.ref 29), some (.int _), none]) dX2_readValue_6 (by decide) rfl ?_
  refine wp_aload_n dX2_readValue_7 rfl ?_
  refine wp_cV0 (z := mX2_readNumber) (n' := 243) kX2_55 dX2_readValue_8 (Nat.le_of_ble_eq_true rfl) (Nat.le_of_ble_eq_true rfl) tA_29 (Nat.le_of_ble_eq_true rfl) (Nat.le_of_ble_eq_true rfl) (Nat.le_refl _) (Nat.le_refl _) (s_X2_readNumber hC (show PD M0 M1 tx pl (vF tx pl a) k t s v p f from g1) hp (by omega) (fun M2 g2 => (wp_af ?_)))
  refine wp_istore_n (L' := [some (.ref 29), some (.int _), some (.int (rnV tx pl (vF tx pl a)))]) dX2_readValue_11 (by decide) rfl ?_
  refine wp_aload_n dX2_readValue_12 rfl ?_
  refine wp_iload_n dX2_readValue_13 rfl ?_
  refine wp_bq_eq (tgt := 22) dX2_readValue_14 (by decide) (fun h14 => ?_) (fun h14 => ?_)
  · refine wp_iload_n dX2_readValue_22 rfl ?_
    refine wp_topv (fun z1 e_z1 => ?_)
    refine wp_putI pX2_70 tA_29 rfl ⟨rfl, rfl⟩ (Nat.le_of_ble_eq_true rfl) dX2_readValue_23 ?_
    refine wp_iload_n dX2_readValue_26 rfl ?_
    refine wp_if_lt (tgt := 34) dX2_readValue_27 (by decide) (fun h27 => ?_) (fun h27 => ?_)
    · refine wp_iconst (v := 0) dX2_readValue_34 (by decide) ?_
      exact wp_iret dX2_readValue_35 rfl rfl rfl (by
      first
        | (have e1 := bad (rn_lt h27)
           have := hK _ (rnE tx pl (vF tx pl a)) z1 (fun _ => (rn_none (rn_lt h27)).2) (fun w c hq => by rw [e1] at hq; cases hq) (g2.w6 _)
           rwa [b01_f (by rw [e1]; simp)] at this)
        | (obtain ⟨w, c, hw⟩ := rn_ge h27
           have e1 := good w c hw
           have := hK _ (rnE tx pl (vF tx pl a)) z1 (fun hq => by rw [e1] at hq; cases hq) (fun w2 c2 hq => by
             rw [e1] at hq
             cases hq
             refine ⟨(rn_some hw).2, ?_⟩
             rw [(rn_some hw).1] at e_z1
             rw [e_z1]
             first
               | (rw [if_pos h14, neg1_mul])
               | (rw [if_neg h14, one1_mul])) (g2.w6 _)
           rwa [b01_t (by rw [e1]; rfl)] at this))
    · refine wp_iconst (v := 1) dX2_readValue_30 (by decide) ?_
      refine wp_goto (tgt := 35) dX2_readValue_31 (by decide) ?_
      exact wp_iret dX2_readValue_35 rfl rfl rfl (by
      first
        | (have e1 := bad (rn_lt h27)
           have := hK _ (rnE tx pl (vF tx pl a)) z1 (fun _ => (rn_none (rn_lt h27)).2) (fun w c hq => by rw [e1] at hq; cases hq) (g2.w6 _)
           rwa [b01_f (by rw [e1]; simp)] at this)
        | (obtain ⟨w, c, hw⟩ := rn_ge h27
           have e1 := good w c hw
           have := hK _ (rnE tx pl (vF tx pl a)) z1 (fun hq => by rw [e1] at hq; cases hq) (fun w2 c2 hq => by
             rw [e1] at hq
             cases hq
             refine ⟨(rn_some hw).2, ?_⟩
             rw [(rn_some hw).1] at e_z1
             rw [e_z1]
             first
               | (rw [if_pos h14, neg1_mul])
               | (rw [if_neg h14, one1_mul])) (g2.w6 _)
           rwa [b01_t (by rw [e1]; rfl)] at this))
  · refine wp_iload_n dX2_readValue_17 rfl ?_
    refine wp_ineg dX2_readValue_18 ?_
    refine wp_goto (tgt := 23) dX2_readValue_19 (by decide) ?_
    refine wp_topv (fun z1 e_z1 => ?_)
    refine wp_putI pX2_70 tA_29 rfl ⟨rfl, rfl⟩ (Nat.le_of_ble_eq_true rfl) dX2_readValue_23 ?_
    refine wp_iload_n dX2_readValue_26 rfl ?_
    refine wp_if_lt (tgt := 34) dX2_readValue_27 (by decide) (fun h27 => ?_) (fun h27 => ?_)
    · refine wp_iconst (v := 0) dX2_readValue_34 (by decide) ?_
      exact wp_iret dX2_readValue_35 rfl rfl rfl (by
      first
        | (have e1 := bad (rn_lt h27)
           have := hK _ (rnE tx pl (vF tx pl a)) z1 (fun _ => (rn_none (rn_lt h27)).2) (fun w c hq => by rw [e1] at hq; cases hq) (g2.w6 _)
           rwa [b01_f (by rw [e1]; simp)] at this)
        | (obtain ⟨w, c, hw⟩ := rn_ge h27
           have e1 := good w c hw
           have := hK _ (rnE tx pl (vF tx pl a)) z1 (fun hq => by rw [e1] at hq; cases hq) (fun w2 c2 hq => by
             rw [e1] at hq
             cases hq
             refine ⟨(rn_some hw).2, ?_⟩
             rw [(rn_some hw).1] at e_z1
             rw [e_z1]
             first
               | (rw [if_pos h14, neg1_mul])
               | (rw [if_neg h14, one1_mul])) (g2.w6 _)
           rwa [b01_t (by rw [e1]; rfl)] at this))
    · refine wp_iconst (v := 1) dX2_readValue_30 (by decide) ?_
      refine wp_goto (tgt := 35) dX2_readValue_31 (by decide) ?_
      exact wp_iret dX2_readValue_35 rfl rfl rfl (by
      first
        | (have e1 := bad (rn_lt h27)
           have := hK _ (rnE tx pl (vF tx pl a)) z1 (fun _ => (rn_none (rn_lt h27)).2) (fun w c hq => by rw [e1] at hq; cases hq) (g2.w6 _)
           rwa [b01_f (by rw [e1]; simp)] at this)
        | (obtain ⟨w, c, hw⟩ := rn_ge h27
           have e1 := good w c hw
           have := hK _ (rnE tx pl (vF tx pl a)) z1 (fun hq => by rw [e1] at hq; cases hq) (fun w2 c2 hq => by
             rw [e1] at hq
             cases hq
             refine ⟨(rn_some hw).2, ?_⟩
             rw [(rn_some hw).1] at e_z1
             rw [e_z1]
             first
               | (rw [if_pos h14, neg1_mul])
               | (rw [if_neg h14, one1_mul])) (g2.w6 _)
           rwa [b01_t (by rw [e1]; rfl)] at this))

