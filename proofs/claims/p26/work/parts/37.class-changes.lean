/-! THE CLASS: small changes -/
theorem Ok0.cell1 {sg : Nat → Int32} {np ng i j : Nat} (h : Ok0 sg np ng) (hi : i < np) (hj : j < np) (e : sg (86 + 6 * i) = sg (86 + 6 * j)) : i = j := by
  have e2 : cel sg i = cel sg j := by unfold cel; rw [e]
  by_cases h1 : i < j
  · have := h.2.2.2.1 i j h1 hj
    omega
  · by_cases h2 : j < i
    · have := h.2.2.2.1 j i h2 hi
      omega
    · omega
theorem rkU_one {sg : Nat → Int32} {c : Int32} {k : Nat} (hc : sg (86 + 6 * k) = c) : ∀ {m : Nat}, k < m → (∀ i, i < m → sg (86 + 6 * i) = c → i = k) → rkU sg c m = nI k
  | 0, h, _ => absurd h (by omega)
  | m + 1, h, hu => by
    unfold rkU
    by_cases e : sg (86 + 6 * m) = c
    · rw [if_pos e, hu m (by omega) e]
    · rw [if_neg e]
      refine rkU_one hc ?_ fun i hi => hu i (by omega)
      have : ¬ k = m := fun q => e (q ▸ hc)
      omega
/-- the class's rank of a cell's paddle -/
def rkC (sg : Nat → Int32) (c : Int32) (np : Nat) : Int32 := if rkU sg c np = -6 then -1 else rkU sg c np
theorem rkC_no {sg : Nat → Int32} {c : Int32} {np : Nat} (h6 : np ≤ 6) (h : ¬ 0 ≤ rkC sg c np) : rkU sg c np = -6 := by
  by_cases e : rkU sg c np = -6
  · exact e
  · obtain ⟨k, h1, h2⟩ := rkU_in e
    rw [rkC, if_neg e, h2] at h
    exact absurd (nI_pos' (by omega)) h
theorem rkC_in {sg : Nat → Int32} {c : Int32} {np : Nat} (h : 0 ≤ rkC sg c np) : ∃ k, k < np ∧ rkU sg c np = nI k ∧ rkC sg c np = nI k := by
  by_cases e : rkU sg c np = -6
  · rw [rkC, if_pos e] at h
    exact absurd h (by decide)
  · obtain ⟨k, h1, h2⟩ := rkU_in e
    exact ⟨k, h1, h2, by rw [rkC, if_neg e, h2]⟩
theorem out_40 {x : Int32} : ¬ (x < 0 ∨ 40 ≤ x) ↔ (0 ≤ x ∧ x ≤ 39) := by
  have e0 : (0 : Int32).toInt = 0 := by decide
  have e1 : (39 : Int32).toInt = 39 := by decide
  have e4 : (40 : Int32).toInt = 40 := by decide
  simp only [Int32.lt_iff_toInt_lt, Int32.le_iff_toInt_le, e0, e1, e4]
  omega
theorem out_36 {x : Int32} : ¬ (x < 0 ∨ 36 ≤ x) ↔ (0 ≤ x ∧ x ≤ 35) := by
  have e0 : (0 : Int32).toInt = 0 := by decide
  have e1 : (35 : Int32).toInt = 35 := by decide
  have e4 : (36 : Int32).toInt = 36 := by decide
  simp only [Int32.lt_iff_toInt_lt, Int32.le_iff_toInt_le, e0, e1, e4]
  omega
set_option maxRecDepth 100000 in
set_option maxHeartbeats 4000000 in
theorem s_X4_rankIn {γ : Gm} {l : Launch} {M : Mm} {R : Rm} {K : KT} {b np ng : Nat} {sg : Nat → Int32} {c : Int32}  (hT : Tb b) (hR : RT R b) (hk : Tk M R b np ng sg) (ho : Ok0 sg np ng) (hK : K (some (.int (rkC sg c np))) 247 M R) : CL γ l mX4_rankIn 0 247 247 [.ref b, .int c] M R K := by
  show WP γ l mX4_rankIn 0 247 247 0 [some (.ref b), some (.int c), none] [] 247 M R K
  have h6 := ho.1.2
  have loop : ∀ (q k : Nat), q + k = np → (∀ i, i < k → ¬ sg (86 + 6 * i) = c) → WP γ l mX4_rankIn 0 247 247 2 [some (.ref b), some (.int c), some (.int (nI k))] [] 247 M R K := by
    intro q
    induction q with
    | zero =>
      intro k hq hno
      refine wp_iload_n dX4_rankIn_2 rfl ?_
      refine wp_aload_n dX4_rankIn_3 rfl ?_
      refine wp_getJ (v := nI np) fX4_49 hT.t0.1 rfl (by have := hT.lt; omega) dX4_rankIn_4 (hk.cnp.trans ho.1.1) ?_
      refine wp_icN_ge (a := k) (b := np) (tgt := 31) dX4_rankIn_7 (by decide) rfl rfl (by omega) (by omega) (fun h7 => ?_) (fun h7 => absurd h7 (by omega))
      refine wp_iconst (v := (-1)) dX4_rankIn_31 (by decide) ?_
      exact wp_iret dX4_rankIn_32 rfl rfl rfl (by rw [rkC, if_pos (rkU_none fun i hi => hno i (by omega))] at hK; exact hK)
    | succ q ih =>
      intro k hq hno
      have hkn : k < np := by omega
      obtain ⟨pd, hpd⟩ : ∃ pd, pd = R (b + 4) k := ⟨_, rfl⟩
      have hp : b + 6 ≤ pd ∧ pd < b + 12 := by rw [hpd]; exact hR.2.2.1 k (by omega)
      have hcl : M pd 0 = sg (86 + 6 * k) := by rw [hpd]; exact hk.cpad hkn (by decide)
      refine wp_iload_n dX4_rankIn_2 rfl ?_
      refine wp_aload_n dX4_rankIn_3 rfl ?_
      refine wp_getJ (v := nI np) fX4_49 hT.t0.1 rfl (by have := hT.lt; omega) dX4_rankIn_4 (hk.cnp.trans ho.1.1) ?_
      refine wp_icN_ge (a := k) (b := np) (tgt := 31) dX4_rankIn_7 (by decide) rfl rfl (by omega) (by omega) (fun h7 => absurd h7 (by omega)) (fun h7 => ?_)
      refine wp_aload_n dX4_rankIn_10 rfl ?_
      refine wp_getQ fX4_31 hT.t0.1 rfl hR.f3 (by omega) (by have := hT.lt; omega) dX4_rankIn_11 ?_
      refine wp_iload_n dX4_rankIn_14 rfl ?_
      refine wp_aalq (i := k) rfl (by rw [hT.t4.1]; decide) (by rw [hT.t4.2]; omega) (hpd.symm) (by omega) (by have := hT.lt; omega) dX4_rankIn_15 ?_
      refine wp_getJ fX4_87 (hT.tp hp.1 hp.2).1 rfl (by have := hT.lt; omega) dX4_rankIn_16 (hcl) ?_
      refine wp_iload_n dX4_rankIn_19 rfl ?_
      refine wp_icmp_ne (tgt := 25) dX4_rankIn_20 (by decide) (fun h20 => ?_) (fun h20 => ?_)
      · refine wp_iinc (v := nI (k + 1)) (L' := [some (.ref b), some (.int c), some (.int (nI (k + 1)))]) dX4_rankIn_25 (by decide) rfl (inc_1 _) rfl ?_
        refine wp_goto (tgt := 2) dX4_rankIn_28 (by decide) ?_
        exact ih (k + 1) (by omega) fun i hi => by
          by_cases e : i = k
          · rw [e]
            exact h20
          · exact hno i (by omega)
      · refine wp_iload_n dX4_rankIn_23 rfl ?_
        exact wp_iret dX4_rankIn_24 rfl rfl rfl (by
          have e := rkU_one h20 hkn fun i hi e => ho.cell1 hi hkn (e.trans h20.symm)
          rw [rkC, if_neg (by rw [e]; exact nI_m6 (by omega)), e] at hK
          exact hK)
  refine wp_iconst (v := 0) dX4_rankIn_0 (by decide) ?_
  refine wp_istore_n (L' := [some (.ref b), some (.int c), some (.int _)]) dX4_rankIn_1 (by decide) rfl ?_
  exact loop np 0 rfl fun i hi => absurd hi (by omega)

set_option maxRecDepth 100000 in
set_option maxHeartbeats 4000000 in
theorem s_X4_startPaddle {γ : Gm} {l : Launch} {M : Mm} {R : Rm} {K : KT} {b np ng : Nat} {sg : Nat → Int32} {c : Int32}  (hT : Tb b) (hR : RT R b) (hk : Tk M R b np ng sg) (ho : Ok0 sg np ng) (hE : rkU sg c np = -6 → K (some (.int (-1))) 247 M R) (hK : ∀ k, k < np → rkU sg c np = nI k → ∀ M1, FrM b M M1 → Tk M1 R b np ng (up sg (86 + 6 * k + 5) 1) → K (some (.int (1 - sg (86 + 6 * k + 5)))) 247 M1 R) : CL γ l mX4_startPaddle 1 247 247 [.ref b, .int c] M R K := by
  show WP γ l mX4_startPaddle 1 247 247 0 [some (.ref b), some (.int c), none, none] [] 247 M R K
  have h6 := ho.1.2
  refine wp_aload_n dX4_startPaddle_0 rfl ?_
  refine wp_iload_n dX4_startPaddle_1 rfl ?_
  refine wp_cV1 (z := mX4_rankIn) (n' := 247) kX4_80 dX4_startPaddle_2 (Nat.le_of_ble_eq_true rfl) (Nat.le_of_ble_eq_true rfl) hT.t0.1 (by have := hT.lt; omega) (Nat.le_of_ble_eq_true rfl) (Nat.le_refl _) (Nat.le_refl _) (s_X4_rankIn hT hR hk ho (wp_af ?_))
  refine wp_istore_n (L' := [some (.ref b), some (.int c), some (.int _), none]) dX4_startPaddle_5 (by decide) rfl ?_
  refine wp_iload_n dX4_startPaddle_6 rfl ?_
  refine wp_if_ge (tgt := 12) dX4_startPaddle_7 (by decide) (fun h7 => ?_) (fun h7 => ?_)
  · obtain ⟨k, hkn, e1, e2⟩ := rkC_in h7
    obtain ⟨pd, hpd⟩ : ∃ pd, pd = R (b + 4) k := ⟨_, rfl⟩
    have hp : b + 6 ≤ pd ∧ pd < b + 12 := by rw [hpd]; exact hR.2.2.1 k (by omega)
    have hgo : M pd 5 = sg (86 + 6 * k + 5) := by rw [hpd]; exact hk.cpad hkn (by decide)
    refine wp_loc (L' := [some (.ref b), some (.int c), some (.int (nI k)), none]) (by rw [e2]) ?_
    refine wp_aload_n dX4_startPaddle_12 rfl ?_
    refine wp_getQ fX4_31 hT.t0.1 rfl hR.f3 (by omega) (by have := hT.lt; omega) dX4_startPaddle_13 ?_
    refine wp_iload_n dX4_startPaddle_16 rfl ?_
    refine wp_aalq (i := k) rfl (by rw [hT.t4.1]; decide) (by rw [hT.t4.2]; omega) (hpd.symm) (by omega) (by have := hT.lt; omega) dX4_startPaddle_17 ?_
    refine wp_getJ fX4_102 (hT.tp hp.1 hp.2).1 rfl (by have := hT.lt; omega) dX4_startPaddle_18 (hgo) ?_
    refine wp_if_ne (tgt := 28) dX4_startPaddle_21 (by decide) (fun h21 => ?_) (fun h21 => ?_)
    · refine wp_iconst (v := 0) dX4_startPaddle_28 (by decide) ?_
      refine wp_istore_n (L' := [some (.ref b), some (.int c), some (.int (nI k)), some (.int _)]) dX4_startPaddle_29 (by decide) rfl ?_
      refine wp_aload_n dX4_startPaddle_30 rfl ?_
      refine wp_getQ fX4_31 hT.t0.1 rfl hR.f3 (by omega) (by have := hT.lt; omega) dX4_startPaddle_31 ?_
      refine wp_iload_n dX4_startPaddle_34 rfl ?_
      refine wp_aalq (i := k) rfl (by rw [hT.t4.1]; decide) (by rw [hT.t4.2]; omega) (hpd.symm) (by omega) (by have := hT.lt; omega) dX4_startPaddle_35 ?_
      refine wp_iconst (v := 1) dX4_startPaddle_36 (by decide) ?_
      refine wp_putI pX4_102 (hT.tp hp.1 hp.2).1 rfl ⟨rfl, rfl⟩ (by have := hT.lt; omega) dX4_startPaddle_37 ?_
      refine wp_iload_n dX4_startPaddle_40 rfl ?_
      refine wp_top (z := b01 (sg (86 + 6 * k + 5) = 0)) (by first | exact (b01_f h21).symm | exact (b01_t (Decidable.not_not.mp h21)).symm | exact (b01_t h21).symm) ?_
      refine wp_cT1 (z := mX5_asNumber) (n' := 247) kX4_106 dX4_startPaddle_41 (Nat.le_of_ble_eq_true rfl) (Nat.le_of_ble_eq_true rfl) (Nat.le_of_ble_eq_true rfl) (Nat.le_refl _) (Nat.le_refl _) (s_X5_asNumber (p := sg (86 + 6 * k + 5) = 0) (wp_af ?_))
      exact wp_iret dX4_startPaddle_44 rfl rfl rfl (by
      have e3 : b01 (sg (86 + 6 * k + 5) = 0) = 1 - sg (86 + 6 * k + 5) := by
        obtain ⟨-, -, -, -, -, g | g⟩ := ho.2.2.1 k hkn <;> rw [g] <;> decide
      rw [e3]
      exact hK k hkn e1 _ ((FrM.rf b M).u (by omega) (by omega)) (by rw [hpd]; exact hk.upad hR h6 hkn (by decide) 1))
    · refine wp_iconst (v := 1) dX4_startPaddle_24 (by decide) ?_
      refine wp_goto (tgt := 29) dX4_startPaddle_25 (by decide) ?_
      refine wp_istore_n (L' := [some (.ref b), some (.int c), some (.int (nI k)), some (.int _)]) dX4_startPaddle_29 (by decide) rfl ?_
      refine wp_aload_n dX4_startPaddle_30 rfl ?_
      refine wp_getQ fX4_31 hT.t0.1 rfl hR.f3 (by omega) (by have := hT.lt; omega) dX4_startPaddle_31 ?_
      refine wp_iload_n dX4_startPaddle_34 rfl ?_
      refine wp_aalq (i := k) rfl (by rw [hT.t4.1]; decide) (by rw [hT.t4.2]; omega) (hpd.symm) (by omega) (by have := hT.lt; omega) dX4_startPaddle_35 ?_
      refine wp_iconst (v := 1) dX4_startPaddle_36 (by decide) ?_
      refine wp_putI pX4_102 (hT.tp hp.1 hp.2).1 rfl ⟨rfl, rfl⟩ (by have := hT.lt; omega) dX4_startPaddle_37 ?_
      refine wp_iload_n dX4_startPaddle_40 rfl ?_
      refine wp_top (z := b01 (sg (86 + 6 * k + 5) = 0)) (by first | exact (b01_f h21).symm | exact (b01_t (Decidable.not_not.mp h21)).symm | exact (b01_t h21).symm) ?_
      refine wp_cT1 (z := mX5_asNumber) (n' := 247) kX4_106 dX4_startPaddle_41 (Nat.le_of_ble_eq_true rfl) (Nat.le_of_ble_eq_true rfl) (Nat.le_of_ble_eq_true rfl) (Nat.le_refl _) (Nat.le_refl _) (s_X5_asNumber (p := sg (86 + 6 * k + 5) = 0) (wp_af ?_))
      exact wp_iret dX4_startPaddle_44 rfl rfl rfl (by
      have e3 : b01 (sg (86 + 6 * k + 5) = 0) = 1 - sg (86 + 6 * k + 5) := by
        obtain ⟨-, -, -, -, -, g | g⟩ := ho.2.2.1 k hkn <;> rw [g] <;> decide
      rw [e3]
      exact hK k hkn e1 _ ((FrM.rf b M).u (by omega) (by omega)) (by rw [hpd]; exact hk.upad hR h6 hkn (by decide) 1))
  · refine wp_iconst (v := (-1)) dX4_startPaddle_10 (by decide) ?_
    exact wp_iret dX4_startPaddle_11 rfl rfl rfl (hE (rkC_no h6 h7))

set_option maxRecDepth 100000 in
set_option maxHeartbeats 4000000 in
theorem s_X4_changeLevel {γ : Gm} {l : Launch} {M : Mm} {R : Rm} {K : KT} {b np ng : Nat} {sg : Nat → Int32} {c0 v : Int32}  (hT : Tb b) (hR : RT R b) (hk : Tk M R b np ng sg) (ho : Ok0 sg np ng) (hE1 : ¬ (0 ≤ c0 ∧ c0 ≤ 39) → K (some (.int (-1))) 247 M R) (hE2 : (0 ≤ c0 ∧ c0 ≤ 39) → ¬ (-9999 ≤ v ∧ v ≤ 9999) → K (some (.int (-2))) 247 M R) (hK : (-9999 ≤ v ∧ v ≤ 9999) → ∀ k, k < 40 → c0 = nI k → ∀ M1, FrM b M M1 → Tk M1 R b np ng (up sg (6 + k) v) → K (some (.int (sg (6 + k) + 10000))) 247 M1 R) : CL γ l mX4_changeLevel 1 247 247 [.ref b, .int c0, .int v] M R K := by
  show WP γ l mX4_changeLevel 1 247 247 0 [some (.ref b), some (.int c0), some (.int v), none] [] 247 M R K
  refine wp_iload_n dX4_changeLevel_0 rfl ?_
  refine wp_bipush (v := 40) dX4_changeLevel_1 (by decide) ?_
  refine wp_cT2 (z := mX5_isOutside) (n' := 247) kX4_66 dX4_changeLevel_3 (Nat.le_of_ble_eq_true rfl) (Nat.le_of_ble_eq_true rfl) (Nat.le_of_ble_eq_true rfl) (Nat.le_refl _) (Nat.le_refl _) (s_X5_isOutside (wp_af ?_))
  refine wp_bq_eq (tgt := 11) dX4_changeLevel_6 (by decide) (fun h6 => ?_) (fun h6 => ?_)
  · have hin := out_40.mp h6
    obtain ⟨c, hc, e_c⟩ := cell_in hin
    subst e_c
    refine wp_iload_n dX4_changeLevel_11 rfl ?_
    refine wp_sipush (v := (-9999)) dX4_changeLevel_12 (by decide) ?_
    refine wp_icmp_lt (tgt := 25) dX4_changeLevel_15 (by decide) (fun h15 => ?_) (fun h15 => ?_)
    · refine wp_bipush (v := (-2)) dX4_changeLevel_25 (by decide) ?_
      exact wp_iret dX4_changeLevel_27 rfl rfl rfl (hE2 hin (fun h => by first | exact Int32.not_lt.mpr h.1 h15 | exact h22 h.2))
    · refine wp_iload_n dX4_changeLevel_18 rfl ?_
      refine wp_sipush (v := 9999) dX4_changeLevel_19 (by decide) ?_
      refine wp_icmp_le (tgt := 28) dX4_changeLevel_22 (by decide) (fun h22 => ?_) (fun h22 => ?_)
      · refine wp_aload_n dX4_changeLevel_28 rfl ?_
        refine wp_getQ fX4_23 hT.t0.1 rfl hR.f1 (by omega) (by have := hT.lt; omega) dX4_changeLevel_29 ?_
        refine wp_iload_n dX4_changeLevel_32 rfl ?_
        refine wp_iadn (i := c) rfl hT.t2.1 (by have := hT.lt; omega) (by rw [hT.t2.2]; omega) (by have := hT.lt; omega) dX4_changeLevel_33 (hk.clev hc) ?_
        refine wp_istore_n (L' := [some (.ref b), some (.int (nI c)), some (.int v), some (.int (sg (6 + c)))]) dX4_changeLevel_34 (by decide) rfl ?_
        refine wp_aload_n dX4_changeLevel_35 rfl ?_
        refine wp_getQ fX4_23 hT.t0.1 rfl hR.f1 (by omega) (by have := hT.lt; omega) dX4_changeLevel_36 ?_
        refine wp_iload_n dX4_changeLevel_39 rfl ?_
        refine wp_iload_n dX4_changeLevel_40 rfl ?_
        refine wp_iast (i := c) rfl hT.t2.1 (by have := hT.lt; omega) (by rw [hT.t2.2]; omega) (by have := hT.lt; omega) dX4_changeLevel_41 ?_
        refine wp_iload_n dX4_changeLevel_42 rfl ?_
        refine wp_sipush (v := 10000) dX4_changeLevel_43 (by decide) ?_
        refine wp_iadd dX4_changeLevel_46 ?_
        exact wp_iret dX4_changeLevel_47 rfl rfl rfl (hK ⟨Int32.not_lt.mp h15, h22⟩ c hc rfl _ ((FrM.rf b M).u (by omega) (by omega)) (hk.ulev hR ho.1.2 hc v))
      · refine wp_bipush (v := (-2)) dX4_changeLevel_25 (by decide) ?_
        exact wp_iret dX4_changeLevel_27 rfl rfl rfl (hE2 hin (fun h => by first | exact Int32.not_lt.mpr h.1 h15 | exact h22 h.2))
  · have hout := fun h => (out_40.mpr h) h6
    refine wp_iconst (v := (-1)) dX4_changeLevel_9 (by decide) ?_
    exact wp_iret dX4_changeLevel_10 rfl rfl rfl (hE1 hout)

theorem n_70 : Cond.fieldLinkNest RX4 70 RX5 (stN 2) "[I" RX5 ∈ NW := List.mem_filter.mpr ⟨List.mem_of_getElem? (i := 223) (by decide +kernel), by decide +kernel⟩
theorem n_73 : Cond.fieldLinkNest RX4 73 RX5 (stN 3) "[I" RX5 ∈ NW := List.mem_filter.mpr ⟨List.mem_of_getElem? (i := 225) (by decide +kernel), by decide +kernel⟩
theorem sv_st {k : Nat} {v : Int32} (hk : k < 3) : svOk (nI k) v ↔ (stV 2 k ≤ v ∧ v ≤ stV 3 k) := by
  rcases (by omega : k = 0 ∨ k = 1 ∨ k = 2) with h | h | h <;> subst h
  · exact ⟨fun h => h.elim (fun h => h.2) (fun h => h.elim (fun h => absurd h.1 (by decide)) (fun h => absurd h.1 (by decide))), fun h => Or.inl ⟨rfl, h⟩⟩
  · exact ⟨fun h => h.elim (fun h => absurd h.1 (by decide)) (fun h => h.elim (fun h => h.2) (fun h => absurd h.1 (by decide))), fun h => Or.inr (Or.inl ⟨rfl, h⟩)⟩
  · exact ⟨fun h => h.elim (fun h => absurd h.1 (by decide)) (fun h => h.elim (fun h => absurd h.1 (by decide)) (fun h => h.2)), fun h => Or.inr (Or.inr ⟨rfl, h⟩)⟩
theorem out_3 {x : Int32} (h : ¬ (x < 0 ∨ 3 ≤ x)) : ∃ k, k < 3 ∧ x = nI k := by
  have e0 : (0 : Int32).toInt = 0 := by decide
  have e1 : (2 : Int32).toInt = 2 := by decide
  have e4 : (3 : Int32).toInt = 3 := by decide
  obtain ⟨j, h1, h2⟩ := nI_of2 (x := x) (M := 2) (n := 2) (by decide) (fun q => h (Or.inl q)) (by simp only [Int32.lt_iff_toInt_lt, Int32.le_iff_toInt_le, e0, e1, e4] at *; omega)
  exact ⟨j, by omega, h2⟩
theorem sv_in {s v : Int32} (h : svOk s v) : ∃ k, k < 3 ∧ s = nI k := by
  rcases h with h | h | h
  · exact ⟨0, by decide, h.1⟩
  · exact ⟨1, by decide, h.1⟩
  · exact ⟨2, by decide, h.1⟩
theorem in_3 {k : Nat} (h : k < 3) : ¬ (nI k < 0 ∨ 3 ≤ nI k) := by
  rcases (by omega : k = 0 ∨ k = 1 ∨ k = 2) with h | h | h <;> subst h <;> decide
set_option maxRecDepth 100000 in
set_option maxHeartbeats 4000000 in
theorem s_X4_changeSetting {γ : Gm} {l : Launch} {M : Mm} {R : Rm} {K : KT} {b np ng : Nat} {sg : Nat → Int32} {s v : Int32}  (hT : Tb b) (hR : RT R b) (hk : Tk M R b np ng sg) (ho : Ok0 sg np ng) (hE : ¬ svOk s v → K (some (.int (-2))) 247 M R) (hK : svOk s v → ∀ k, k < 3 → s = nI k → ∀ M1, FrM b M M1 → Tk M1 R b np ng (up sg k v) → K (some (.int (sg k))) 247 M1 R) : CL γ l mX4_changeSetting 1 247 247 [.ref b, .int s, .int v] M R K := by
  show WP γ l mX4_changeSetting 1 247 247 0 [some (.ref b), some (.int s), some (.int v), none] [] 247 M R K
  refine wp_iload_n dX4_changeSetting_0 rfl ?_
  refine wp_iconst (v := 3) dX4_changeSetting_1 (by decide) ?_
  refine wp_cT2 (z := mX5_isOutside) (n' := 247) kX4_66 dX4_changeSetting_2 (Nat.le_of_ble_eq_true rfl) (Nat.le_of_ble_eq_true rfl) (Nat.le_of_ble_eq_true rfl) (Nat.le_refl _) (Nat.le_refl _) (s_X5_isOutside (wp_af ?_))
  refine wp_bq_eq (tgt := 11) dX4_changeSetting_5 (by decide) (fun h5 => ?_) (fun h5 => ?_)
  · obtain ⟨k, hk3, e_k⟩ := out_3 h5
    subst e_k
    refine wp_iload_n dX4_changeSetting_11 rfl ?_
    refine wp_getst (k := 2) (by decide) (by decide) n_70 dX4_changeSetting_12 ?_
    refine wp_iload_n dX4_changeSetting_15 rfl ?_
    refine wp_stld (k := 2) (i := k) rfl (by decide) (by decide) (by omega) dX4_changeSetting_16 ?_
    refine wp_icmp_lt (tgt := 29) dX4_changeSetting_17 (by decide) (fun h17 => ?_) (fun h17 => ?_)
    · refine wp_bipush (v := (-2)) dX4_changeSetting_29 (by decide) ?_
      exact wp_iret dX4_changeSetting_31 rfl rfl rfl (hE (fun h => by have q := (sv_st hk3).mp h; first | exact Int32.not_lt.mpr q.1 h17 | exact h26 q.2))
    · refine wp_iload_n dX4_changeSetting_20 rfl ?_
      refine wp_getst (k := 3) (by decide) (by decide) n_73 dX4_changeSetting_21 ?_
      refine wp_iload_n dX4_changeSetting_24 rfl ?_
      refine wp_stld (k := 3) (i := k) rfl (by decide) (by decide) (by omega) dX4_changeSetting_25 ?_
      refine wp_icmp_le (tgt := 32) dX4_changeSetting_26 (by decide) (fun h26 => ?_) (fun h26 => ?_)
      · refine wp_aload_n dX4_changeSetting_32 rfl ?_
        refine wp_getQ fX4_18 hT.t0.1 rfl hR.f0 (by omega) (by have := hT.lt; omega) dX4_changeSetting_33 ?_
        refine wp_iload_n dX4_changeSetting_36 rfl ?_
        refine wp_iadn (i := k) rfl hT.t1.1 (by have := hT.lt; omega) (by rw [hT.t1.2]; omega) (by have := hT.lt; omega) dX4_changeSetting_37 (hk.cset hk3) ?_
        refine wp_istore_n (L' := [some (.ref b), some (.int (nI k)), some (.int v), some (.int (sg k))]) dX4_changeSetting_38 (by decide) rfl ?_
        refine wp_aload_n dX4_changeSetting_39 rfl ?_
        refine wp_getQ fX4_18 hT.t0.1 rfl hR.f0 (by omega) (by have := hT.lt; omega) dX4_changeSetting_40 ?_
        refine wp_iload_n dX4_changeSetting_43 rfl ?_
        refine wp_iload_n dX4_changeSetting_44 rfl ?_
        refine wp_iast (i := k) rfl hT.t1.1 (by have := hT.lt; omega) (by rw [hT.t1.2]; omega) (by have := hT.lt; omega) dX4_changeSetting_45 ?_
        refine wp_iload_n dX4_changeSetting_46 rfl ?_
        exact wp_iret dX4_changeSetting_47 rfl rfl rfl (hK ((sv_st hk3).mpr ⟨Int32.not_lt.mp h17, h26⟩) k hk3 rfl _ ((FrM.rf b M).u (by omega) (by omega)) (hk.uset hR ho.1.2 hk3 v))
      · refine wp_bipush (v := (-2)) dX4_changeSetting_29 (by decide) ?_
        exact wp_iret dX4_changeSetting_31 rfl rfl rfl (hE (fun h => by have q := (sv_st hk3).mp h; first | exact Int32.not_lt.mpr q.1 h17 | exact h26 q.2))
  · refine wp_bipush (v := (-2)) dX4_changeSetting_8 (by decide) ?_
    exact wp_iret dX4_changeSetting_10 rfl rfl rfl (hE (fun h => by obtain ⟨k, h1, h2⟩ := sv_in h; subst h2; exact in_3 h1 h5))
