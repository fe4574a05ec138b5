/-! THE CLASS: what there is -/
theorem b01_of {v : Int32} (h : v = 0 ∨ v = 1) : b01 (v = 1) = v := by
  rcases h with h | h
  · rw [h, b01_f (by decide)]
  · rw [h, b01_t rfl]
theorem out_n {x : Int32} {m : Nat} : ¬ (x < 0 ∨ nI m ≤ x) ↔ (0 ≤ x ∧ x < nI m) := by
  rw [not_or, Int32.not_lt, Int32.not_le]
theorem out_5 {x : Int32} : ¬ (x < 0 ∨ 5 ≤ x) ↔ (0 ≤ x ∧ x ≤ 4) := by
  have e0 : (0 : Int32).toInt = 0 := by decide
  have e1 : (4 : Int32).toInt = 4 := by decide
  have e4 : (5 : Int32).toInt = 5 := by decide
  simp only [Int32.lt_iff_toInt_lt, Int32.le_iff_toInt_le, e0, e1, e4]
  omega
theorem place_in {c : Int32} (h : 0 ≤ c ∧ c ≤ 4) : ∃ k, k < 5 ∧ c = nI k := by
  obtain ⟨j, h1, h2⟩ := nI_of2 (M := 4) (n := 4) (by decide) (Int32.not_lt.mpr h.1) h.2
  exact ⟨j, by omega, h2⟩
set_option maxRecDepth 100000 in
set_option maxHeartbeats 4000000 in
theorem s_X5_cell {γ : Gm} {l : Launch} {M : Mm} {R : Rm} {K : KT} {sg tx F : Nat → Int32} {rc pl : Nat} {hs S : Nat → Nat → Int32} {c w : Int32}  (h : IC M R sg rc hs F S tx pl) (hE : ¬ (0 ≤ c ∧ c ≤ 39) → K (some (.int (-1))) 247 M R) (hK : ∀ k, k < 40 → c = nI k → K (some (.int (cellR sg k w))) 247 M R) : CL γ l mX5_cell 1 247 247 [.ref 8, .int c, .int w] M R K := by
  show WP γ l mX5_cell 1 247 247 0 [some (.ref 8), some (.int c), some (.int w)] [] 247 M R K
  have hC := h.ib.gr.rc
  have h9 := h.ib.gr.r9
  refine wp_iload_n dX5_cell_0 rfl ?_
  refine wp_bipush (v := 40) dX5_cell_1 (by decide) ?_
  refine wp_cS2 (z := mX5_isOutside) (n' := 247) kX5_78 dX5_cell_3 (Nat.le_of_ble_eq_true rfl) (Nat.le_of_ble_eq_true rfl) (Nat.le_of_ble_eq_true rfl) (Nat.le_refl _) (Nat.le_refl _) (s_X5_isOutside (wp_af ?_))
  refine wp_bq_eq (tgt := 11) dX5_cell_6 (by decide) (fun h6 => ?_) (fun h6 => ?_)
  · obtain ⟨k, hk, e_c⟩ := cell_in (out_40.mp h6)
    subst e_c
    replace hK := hK k hk rfl
    unfold cellR at hK
    refine wp_iload_n dX5_cell_11 rfl ?_
    refine wp_tswitch [(0, 44), (1, 58), (2, 72), (3, 84)] 96 dX5_cell_12 (by decide) (by decide) (by decide +kernel) ?_
    refine wp_sw (fun h12_0 => ?_) (fun h12_0 => ?_)
    · subst h12_0
      rw [if_pos rfl] at hK
      refine wp_aload_n dX5_cell_44 rfl ?_
      refine wp_getQ fX5_10 tA_8 rfl hC.f0 (by decide) (Nat.le_of_ble_eq_true rfl) dX5_cell_45 ?_
      refine wp_getQ fX5_82 tb9.t0.1 rfl h9.f1 (by omega) (by have := tb9.lt; omega) dX5_cell_48 ?_
      refine wp_iload_n dX5_cell_51 rfl ?_
      refine wp_iadn (i := k) rfl tb9.t2.1 (by have := tb9.lt; omega) (by rw [tb9.t2.2]; omega) (by have := tb9.lt; omega) dX5_cell_52 (h.tk.clev hk) ?_
      refine wp_sipush (v := 10000) dX5_cell_53 (by decide) ?_
      refine wp_iadd dX5_cell_56 ?_
      exact wp_iret dX5_cell_57 rfl rfl rfl (hK)
    refine wp_sw (fun h12_1 => ?_) (fun h12_1 => ?_)
    · subst h12_1
      rw [if_neg (by decide), if_pos rfl] at hK
      refine wp_aload_n dX5_cell_58 rfl ?_
      refine wp_getQ fX5_10 tA_8 rfl hC.f0 (by decide) (Nat.le_of_ble_eq_true rfl) dX5_cell_59 ?_
      refine wp_getQ fX5_86 tb9.t0.1 rfl h9.f2 (by omega) (by have := tb9.lt; omega) dX5_cell_62 ?_
      refine wp_iload_n dX5_cell_65 rfl ?_
      refine wp_iadn (i := k) rfl tb9.t3.1 (by have := tb9.lt; omega) (by rw [tb9.t3.2]; omega) (by have := tb9.lt; omega) dX5_cell_66 (h.tk.cspd hk) ?_
      refine wp_sipush (v := 10000) dX5_cell_67 (by decide) ?_
      refine wp_iadd dX5_cell_70 ?_
      exact wp_iret dX5_cell_71 rfl rfl rfl (hK)
    refine wp_sw (fun h12_2 => ?_) (fun h12_2 => ?_)
    · subst h12_2
      rw [if_neg (by decide), if_neg (by decide), if_pos rfl] at hK
      refine wp_aload_n dX5_cell_72 rfl ?_
      refine wp_getQ fX5_10 tA_8 rfl hC.f0 (by decide) (Nat.le_of_ble_eq_true rfl) dX5_cell_73 ?_
      refine wp_iload_n dX5_cell_76 rfl ?_
      refine wp_cV1 (z := mX4_isCrest) (n' := 247) kX5_89 dX5_cell_77 (Nat.le_of_ble_eq_true rfl) (Nat.le_of_ble_eq_true rfl) tb9.t0.1 (by have := tb9.lt; omega) (Nat.le_of_ble_eq_true rfl) (Nat.le_refl _) (Nat.le_refl _) (s_X4_isCrest tb9 h9 h.tk hk (wp_af ?_))
      refine wp_top (b01_of (crest_01 sg k)).symm ?_
      refine wp_cS1 (z := mX5_asNumber) (n' := 247) kX5_93 dX5_cell_80 (Nat.le_of_ble_eq_true rfl) (Nat.le_of_ble_eq_true rfl) (Nat.le_of_ble_eq_true rfl) (Nat.le_refl _) (Nat.le_refl _) (s_X5_asNumber (wp_af ?_))
      exact wp_iret dX5_cell_83 rfl rfl rfl (by rw [b01_of (crest_01 sg k)]; exact hK)
    refine wp_sw (fun h12_3 => ?_) (fun h12_3 => ?_)
    · subst h12_3
      rw [if_neg (by decide), if_neg (by decide), if_neg (by decide), if_pos rfl] at hK
      refine wp_aload_n dX5_cell_84 rfl ?_
      refine wp_getQ fX5_10 tA_8 rfl hC.f0 (by decide) (Nat.le_of_ble_eq_true rfl) dX5_cell_85 ?_
      refine wp_iload_n dX5_cell_88 rfl ?_
      refine wp_cV1 (z := mX4_isTrough) (n' := 247) kX5_97 dX5_cell_89 (Nat.le_of_ble_eq_true rfl) (Nat.le_of_ble_eq_true rfl) tb9.t0.1 (by have := tb9.lt; omega) (Nat.le_of_ble_eq_true rfl) (Nat.le_refl _) (Nat.le_refl _) (s_X4_isTrough tb9 h9 h.tk hk (wp_af ?_))
      refine wp_top (b01_of (trough_01 sg k)).symm ?_
      refine wp_cS1 (z := mX5_asNumber) (n' := 247) kX5_93 dX5_cell_92 (Nat.le_of_ble_eq_true rfl) (Nat.le_of_ble_eq_true rfl) (Nat.le_of_ble_eq_true rfl) (Nat.le_refl _) (Nat.le_refl _) (s_X5_asNumber (wp_af ?_))
      exact wp_iret dX5_cell_95 rfl rfl rfl (by rw [b01_of (trough_01 sg k)]; exact hK)
    refine wp_sw0 ?_
    refine wp_bipush (v := (-2)) dX5_cell_96 (by decide) ?_
    exact wp_iret dX5_cell_98 rfl rfl rfl (by rw [if_neg h12_0, if_neg h12_1, if_neg h12_2, if_neg h12_3] at hK; exact hK)
  · refine wp_iconst (v := (-1)) dX5_cell_9 (by decide) ?_
    exact wp_iret dX5_cell_10 rfl rfl rfl (hE (fun e => (out_40.mpr e) h6))

set_option maxRecDepth 100000 in
set_option maxHeartbeats 4000000 in
theorem s_X5_ofPaddle {γ : Gm} {l : Launch} {M : Mm} {R : Rm} {K : KT} {sg tx F : Nat → Int32} {rc pl : Nat} {hs S : Nat → Nat → Int32} {c w : Int32}  (h : IC M R sg rc hs F S tx pl) (hE : ¬ (0 ≤ c ∧ c < nI (nP sg)) → K (some (.int (-1))) 247 M R) (hK : ∀ k, k < nP sg → c = nI k → K (some (.int (ofpR sg k w))) 247 M R) : CL γ l mX5_ofPaddle 2 247 247 [.ref 8, .int c, .int w] M R K := by
  show WP γ l mX5_ofPaddle 2 247 247 0 [some (.ref 8), some (.int c), some (.int w), none] [] 247 M R K
  have hC := h.ib.gr.rc
  have h9 := h.ib.gr.r9
  have h6p := h.ok.p6
  refine wp_iload_n dX5_ofPaddle_0 rfl ?_
  refine wp_aload_n dX5_ofPaddle_1 rfl ?_
  refine wp_getQ fX5_10 tA_8 rfl hC.f0 (by decide) (Nat.le_of_ble_eq_true rfl) dX5_ofPaddle_2 ?_
  refine wp_getJ (v := nI (nP sg)) fX5_100 tb9.t0.1 rfl (by have := tb9.lt; omega) dX5_ofPaddle_5 (h.tk.cnp.trans h.ok.1.1.1) ?_
  refine wp_cS2 (z := mX5_isOutside) (n' := 247) kX5_78 dX5_ofPaddle_8 (Nat.le_of_ble_eq_true rfl) (Nat.le_of_ble_eq_true rfl) (Nat.le_of_ble_eq_true rfl) (Nat.le_refl _) (Nat.le_refl _) (s_X5_isOutside (wp_af ?_))
  refine wp_bq_eq (tgt := 16) dX5_ofPaddle_11 (by decide) (fun h11 => ?_) (fun h11 => ?_)
  · obtain ⟨k, hk, e_c⟩ := rank_in (by omega) (out_n.mp h11)
    subst e_c
    replace hK := hK k hk rfl
    unfold ofpR at hK
    obtain ⟨⟨cc, hcc, hcv⟩, ⟨so, hso, hsv⟩, -, ⟨p, hp1, hp2, hpv⟩, -, hgo⟩ := h.ok.1.2.2.1 k hk
    obtain ⟨pd, hpd⟩ : ∃ pd, pd = R (9 + 4) k := ⟨_, rfl⟩
    have hp : 9 + 6 ≤ pd ∧ pd < 9 + 12 := by rw [hpd]; exact h9.2.2.1 k (by omega)
    have fld : ∀ j, j < 6 → M pd j = sg (86 + 6 * k + j) := fun j hj => by rw [hpd]; exact h.tk.cpad hk hj
    have epu : pushV (nI so) (sg (86 + 6 * k + 2)) (nI p) (remI (sg 3 + sg (86 + 6 * k + 4)) (nI p)) = pushS sg k := by rw [pushS, hsv, hpv]
    refine wp_aload_n dX5_ofPaddle_16 rfl ?_
    refine wp_getQ fX5_10 tA_8 rfl hC.f0 (by decide) (Nat.le_of_ble_eq_true rfl) dX5_ofPaddle_17 ?_
    refine wp_getQ fX5_104 tb9.t0.1 rfl h9.f3 (by omega) (by have := tb9.lt; omega) dX5_ofPaddle_20 ?_
    refine wp_iload_n dX5_ofPaddle_23 rfl ?_
    refine wp_aalq (i := k) rfl (by rw [tb9.t4.1]; decide) (by rw [tb9.t4.2]; omega) (hpd.symm) (by omega) (by have := tb9.lt; omega) dX5_ofPaddle_24 ?_
    refine wp_astore_n (L' := [some (.ref 8), some (.int (nI k)), some (.int w), some (.ref pd)]) dX5_ofPaddle_25 (by decide) rfl ?_
    refine wp_iload_n dX5_ofPaddle_26 rfl ?_
    refine wp_tswitch [(0, 68), (1, 73), (2, 78), (3, 87), (4, 92), (5, 97), (6, 105)] 121 dX5_ofPaddle_27 (by decide) (by decide) (by decide +kernel) ?_
    refine wp_sw (fun h27_0 => ?_) (fun h27_0 => ?_)
    · subst h27_0
      rw [if_pos rfl] at hK
      refine wp_aload_n dX5_ofPaddle_68 rfl ?_
      refine wp_getJ fX5_108 (tb9.tp hp.1 hp.2).1 rfl (by have := tb9.lt; omega) dX5_ofPaddle_69 (fld 0 (by decide)) ?_
      exact wp_iret dX5_ofPaddle_72 rfl rfl rfl (hK)
    refine wp_sw (fun h27_1 => ?_) (fun h27_1 => ?_)
    · subst h27_1
      rw [if_neg (by decide), if_pos rfl] at hK
      refine wp_aload_n dX5_ofPaddle_73 rfl ?_
      refine wp_getJ fX5_113 (tb9.tp hp.1 hp.2).1 rfl (by have := tb9.lt; omega) dX5_ofPaddle_74 (fld 1 (by decide)) ?_
      exact wp_iret dX5_ofPaddle_77 rfl rfl rfl (hK)
    refine wp_sw (fun h27_2 => ?_) (fun h27_2 => ?_)
    · subst h27_2
      rw [if_neg (by decide), if_neg (by decide), if_pos rfl] at hK
      refine wp_aload_n dX5_ofPaddle_78 rfl ?_
      refine wp_getJ fX5_116 (tb9.tp hp.1 hp.2).1 rfl (by have := tb9.lt; omega) dX5_ofPaddle_79 (fld 2 (by decide)) ?_
      refine wp_sipush (v := 1000) dX5_ofPaddle_82 (by decide) ?_
      refine wp_iadd dX5_ofPaddle_85 ?_
      exact wp_iret dX5_ofPaddle_86 rfl rfl rfl (hK)
    refine wp_sw (fun h27_3 => ?_) (fun h27_3 => ?_)
    · subst h27_3
      rw [if_neg (by decide), if_neg (by decide), if_neg (by decide), if_pos rfl] at hK
      refine wp_aload_n dX5_ofPaddle_87 rfl ?_
      refine wp_getJ fX5_119 (tb9.tp hp.1 hp.2).1 rfl (by have := tb9.lt; omega) dX5_ofPaddle_88 (fld 3 (by decide)) ?_
      exact wp_iret dX5_ofPaddle_91 rfl rfl rfl (hK)
    refine wp_sw (fun h27_4 => ?_) (fun h27_4 => ?_)
    · subst h27_4
      rw [if_neg (by decide), if_neg (by decide), if_neg (by decide), if_neg (by decide), if_pos rfl] at hK
      refine wp_aload_n dX5_ofPaddle_92 rfl ?_
      refine wp_getJ fX5_122 (tb9.tp hp.1 hp.2).1 rfl (by have := tb9.lt; omega) dX5_ofPaddle_93 (fld 4 (by decide)) ?_
      exact wp_iret dX5_ofPaddle_96 rfl rfl rfl (hK)
    refine wp_sw (fun h27_5 => ?_) (fun h27_5 => ?_)
    · subst h27_5
      rw [if_neg (by decide), if_neg (by decide), if_neg (by decide), if_neg (by decide), if_neg (by decide), if_pos rfl] at hK
      refine wp_aload_n dX5_ofPaddle_97 rfl ?_
      refine wp_getJ fX5_125 (tb9.tp hp.1 hp.2).1 rfl (by have := tb9.lt; omega) dX5_ofPaddle_98 (fld 5 (by decide)) ?_
      refine wp_top (b01_of hgo).symm ?_
      refine wp_cS1 (z := mX5_asNumber) (n' := 247) kX5_93 dX5_ofPaddle_101 (Nat.le_of_ble_eq_true rfl) (Nat.le_of_ble_eq_true rfl) (Nat.le_of_ble_eq_true rfl) (Nat.le_refl _) (Nat.le_refl _) (s_X5_asNumber (wp_af ?_))
      exact wp_iret dX5_ofPaddle_104 rfl rfl rfl (by rw [b01_of hgo]; exact hK)
    refine wp_sw (fun h27_6 => ?_) (fun h27_6 => ?_)
    · subst h27_6
      rw [if_neg (by decide), if_neg (by decide), if_neg (by decide), if_neg (by decide), if_neg (by decide), if_neg (by decide), if_pos rfl] at hK
      refine wp_aload_n dX5_ofPaddle_105 rfl ?_
      refine wp_aload_n dX5_ofPaddle_106 rfl ?_
      refine wp_getQ fX5_10 tA_8 rfl hC.f0 (by decide) (Nat.le_of_ble_eq_true rfl) dX5_ofPaddle_107 ?_
      refine wp_getJ fX5_129 tb9.t0.1 rfl (by have := tb9.lt; omega) dX5_ofPaddle_110 (h.tk.cstp) ?_
      refine wp_cV1 (z := mX3_pushAt) (n' := 247) kX5_132 dX5_ofPaddle_113 (Nat.le_of_ble_eq_true rfl) (Nat.le_of_ble_eq_true rfl) (tb9.tp hp.1 hp.2).1 (by have := tb9.lt; omega) (Nat.le_of_ble_eq_true rfl) (Nat.le_refl _) (Nat.le_refl _) (s_X3_pushAt (st := sg 3) tb9 hp ((fld 1 (by decide)).trans hsv) hso (fld 2 (by decide)) ((fld 3 (by decide)).trans hpv) hp1 hp2 (fld 4 (by decide)) (wp_af ?_))
      refine wp_top epu ?_
      refine wp_sipush (v := 1000) dX5_ofPaddle_116 (by decide) ?_
      refine wp_iadd dX5_ofPaddle_119 ?_
      exact wp_iret dX5_ofPaddle_120 rfl rfl rfl (hK)
    refine wp_sw0 ?_
    refine wp_bipush (v := (-2)) dX5_ofPaddle_121 (by decide) ?_
    exact wp_iret dX5_ofPaddle_123 rfl rfl rfl (by rw [if_neg h27_0, if_neg h27_1, if_neg h27_2, if_neg h27_3, if_neg h27_4, if_neg h27_5, if_neg h27_6] at hK; exact hK)
  · refine wp_iconst (v := (-1)) dX5_ofPaddle_14 (by decide) ?_
    exact wp_iret dX5_ofPaddle_15 rfl rfl rfl (hE (fun e => (out_n.mpr e) h11))

set_option maxRecDepth 100000 in
set_option maxHeartbeats 4000000 in
theorem s_X5_ofGauge {γ : Gm} {l : Launch} {M : Mm} {R : Rm} {K : KT} {sg tx F : Nat → Int32} {rc pl : Nat} {hs S : Nat → Nat → Int32} {c w : Int32}  (h : IC M R sg rc hs F S tx pl) (hE : ¬ (0 ≤ c ∧ c < nI (nG sg)) → K (some (.int (-1))) 247 M R) (hK : ∀ k m, k < nG sg → m ≤ 60 → c = nI k → sg (122 + 62 * k + 1) = nI m → K (some (.int (ofgR sg k m w))) 247 M R) : CL γ l mX5_ofGauge 3 247 247 [.ref 8, .int c, .int w] M R K := by
  show WP γ l mX5_ofGauge 3 247 247 0 [some (.ref 8), some (.int c), some (.int w), none] [] 247 M R K
  have hC := h.ib.gr.rc
  have h9 := h.ib.gr.r9
  have h4g := h.ok.g4
  refine wp_iload_n dX5_ofGauge_0 rfl ?_
  refine wp_aload_n dX5_ofGauge_1 rfl ?_
  refine wp_getQ fX5_10 tA_8 rfl hC.f0 (by decide) (Nat.le_of_ble_eq_true rfl) dX5_ofGauge_2 ?_
  refine wp_getJ (v := nI (nG sg)) fX5_135 tb9.t0.1 rfl (by have := tb9.lt; omega) dX5_ofGauge_5 (h.tk.cng.trans h.ok.1.2.1.1) ?_
  refine wp_cS2 (z := mX5_isOutside) (n' := 247) kX5_78 dX5_ofGauge_8 (Nat.le_of_ble_eq_true rfl) (Nat.le_of_ble_eq_true rfl) (Nat.le_of_ble_eq_true rfl) (Nat.le_refl _) (Nat.le_refl _) (s_X5_isOutside (wp_af ?_))
  refine wp_bq_eq (tgt := 16) dX5_ofGauge_11 (by decide) (fun h11 => ?_) (fun h11 => ?_)
  · obtain ⟨k, hk, e_c⟩ := rank_in (by omega) (out_n.mp h11)
    subst e_c
    obtain ⟨⟨cc, hcc, hcv⟩, m, hm60, e_m, hbd0⟩ := h.ok.1.2.2.2.2.1 k hk
    replace hK := hK k m hk hm60 rfl e_m
    unfold ofgR at hK
    have hk4 : k < 4 := by omega
    have hG := h.tk.cgau hk
    have hbd : ∀ q, q < m → bd ((fun i => sg (122 + 62 * k + (2 + i))) q) := fun q hq => by have := hbd0 q hq; rwa [Nat.add_assoc] at this
    refine wp_aload_n dX5_ofGauge_16 rfl ?_
    refine wp_getQ fX5_10 tA_8 rfl hC.f0 (by decide) (Nat.le_of_ble_eq_true rfl) dX5_ofGauge_17 ?_
    refine wp_getQ fX5_138 tb9.t0.1 rfl h9.f4 (by omega) (by have := tb9.lt; omega) dX5_ofGauge_20 ?_
    refine wp_iload_n dX5_ofGauge_23 rfl ?_
    refine wp_aalq (i := k) rfl (by rw [tb9.t5.1]; decide) (by rw [tb9.t5.2]; omega) ((h9.2.1 k (by omega)).1) (by omega) (by have := tb9.lt; omega) dX5_ofGauge_24 ?_
    refine wp_astore_n (L' := [some (.ref 8), some (.int (nI k)), some (.int w), some (.ref (9 + 12 + 2 * k))]) dX5_ofGauge_25 (by decide) rfl ?_
    refine wp_iload_n dX5_ofGauge_26 rfl ?_
    refine wp_tswitch [(0, 60), (1, 65), (2, 70), (3, 91), (4, 112)] 117 dX5_ofGauge_27 (by decide) (by decide) (by decide +kernel) ?_
    refine wp_sw (fun h27_0 => ?_) (fun h27_0 => ?_)
    · subst h27_0
      rw [if_pos rfl] at hK
      refine wp_aload_n dX5_ofGauge_60 rfl ?_
      refine wp_getJ fX5_142 (tb9.tg0 hk4).1 rfl (by have := tb9.lt; omega) dX5_ofGauge_61 (hG.1) ?_
      exact wp_iret dX5_ofGauge_64 rfl rfl rfl (hK)
    refine wp_sw (fun h27_1 => ?_) (fun h27_1 => ?_)
    · subst h27_1
      rw [if_neg (by decide), if_pos rfl] at hK
      refine wp_aload_n dX5_ofGauge_65 rfl ?_
      refine wp_getJ fX5_145 (tb9.tg0 hk4).1 rfl (by have := tb9.lt; omega) dX5_ofGauge_66 (hG.2.1) ?_
      exact wp_iret dX5_ofGauge_69 rfl rfl rfl (hK)
    refine wp_sw (fun h27_2 => ?_) (fun h27_2 => ?_)
    · subst h27_2
      rw [if_neg (by decide), if_neg (by decide), if_pos rfl] at hK
      refine wp_aload_n dX5_ofGauge_70 rfl ?_
      refine wp_getJ (v := nI m) fX5_145 (tb9.tg0 hk4).1 rfl (by have := tb9.lt; omega) dX5_ofGauge_71 (hG.2.1.trans e_m) ?_
      refine wp_ifN_ne (a := m) (tgt := 82) dX5_ofGauge_74 (by decide) rfl (by omega) (fun g0 => ?_) (fun g0 => ?_)
      · unfold exR at hK
        refine wp_aload_n dX5_ofGauge_82 rfl ?_
        refine wp_cV0 (z := mX0_greatest) (n' := 247) kX5_148 dX5_ofGauge_83 (Nat.le_of_ble_eq_true rfl) (Nat.le_of_ble_eq_true rfl) (tb9.tg0 hk4).1 (by have := tb9.lt; omega) (Nat.le_of_ble_eq_true rfl) (Nat.le_refl _) (Nat.le_refl _) (s_X0_greatest tb9 h9 hk4 hG hm60 e_m (by omega) (fun q => rfl) hbd (wp_af ?_))
        refine wp_sipush (v := 10000) dX5_ofGauge_86 (by decide) ?_
        refine wp_iadd dX5_ofGauge_89 ?_
        exact wp_iret dX5_ofGauge_90 rfl rfl rfl (by first | (rw [if_pos (by omega)] at hK; exact hK) | (rw [if_neg (by omega)] at hK; exact hK))
      · unfold exR at hK
        refine wp_bipush (v := (-6)) dX5_ofGauge_77 (by decide) ?_
        refine wp_goto (tgt := 90) dX5_ofGauge_79 (by decide) ?_
        exact wp_iret dX5_ofGauge_90 rfl rfl rfl (by first | (rw [if_pos (by omega)] at hK; exact hK) | (rw [if_neg (by omega)] at hK; exact hK))
    refine wp_sw (fun h27_3 => ?_) (fun h27_3 => ?_)
    · subst h27_3
      rw [if_neg (by decide), if_neg (by decide), if_neg (by decide), if_pos rfl] at hK
      refine wp_aload_n dX5_ofGauge_91 rfl ?_
      refine wp_getJ (v := nI m) fX5_145 (tb9.tg0 hk4).1 rfl (by have := tb9.lt; omega) dX5_ofGauge_92 (hG.2.1.trans e_m) ?_
      refine wp_ifN_ne (a := m) (tgt := 103) dX5_ofGauge_95 (by decide) rfl (by omega) (fun g0 => ?_) (fun g0 => ?_)
      · unfold exR at hK
        refine wp_aload_n dX5_ofGauge_103 rfl ?_
        refine wp_cV0 (z := mX0_least) (n' := 247) kX5_152 dX5_ofGauge_104 (Nat.le_of_ble_eq_true rfl) (Nat.le_of_ble_eq_true rfl) (tb9.tg0 hk4).1 (by have := tb9.lt; omega) (Nat.le_of_ble_eq_true rfl) (Nat.le_refl _) (Nat.le_refl _) (s_X0_least tb9 h9 hk4 hG hm60 e_m (by omega) (fun q => rfl) hbd (wp_af ?_))
        refine wp_sipush (v := 10000) dX5_ofGauge_107 (by decide) ?_
        refine wp_iadd dX5_ofGauge_110 ?_
        exact wp_iret dX5_ofGauge_111 rfl rfl rfl (by first | (rw [if_pos (by omega)] at hK; exact hK) | (rw [if_neg (by omega)] at hK; exact hK))
      · unfold exR at hK
        refine wp_bipush (v := (-6)) dX5_ofGauge_98 (by decide) ?_
        refine wp_goto (tgt := 111) dX5_ofGauge_100 (by decide) ?_
        exact wp_iret dX5_ofGauge_111 rfl rfl rfl (by first | (rw [if_pos (by omega)] at hK; exact hK) | (rw [if_neg (by omega)] at hK; exact hK))
    refine wp_sw (fun h27_4 => ?_) (fun h27_4 => ?_)
    · subst h27_4
      rw [if_neg (by decide), if_neg (by decide), if_neg (by decide), if_neg (by decide), if_pos rfl] at hK
      refine wp_aload_n dX5_ofGauge_112 rfl ?_
      refine wp_cV0 (z := mX0_rises) (n' := 247) kX5_155 dX5_ofGauge_113 (Nat.le_of_ble_eq_true rfl) (Nat.le_of_ble_eq_true rfl) (tb9.tg0 hk4).1 (by have := tb9.lt; omega) (Nat.le_of_ble_eq_true rfl) (Nat.le_refl _) (Nat.le_refl _) (s_X0_rises tb9 h9 hk4 hG hm60 e_m (fun q => rfl) (wp_af ?_))
      exact wp_iret dX5_ofGauge_116 rfl rfl rfl (hK)
    refine wp_sw0 ?_
    refine wp_bipush (v := (-2)) dX5_ofGauge_117 (by decide) ?_
    exact wp_iret dX5_ofGauge_119 rfl rfl rfl (by rw [if_neg h27_0, if_neg h27_1, if_neg h27_2, if_neg h27_3, if_neg h27_4] at hK; exact hK)
  · refine wp_iconst (v := (-1)) dX5_ofGauge_14 (by decide) ?_
    exact wp_iret dX5_ofGauge_15 rfl rfl rfl (hE (fun e => (out_n.mpr e) h11))

set_option maxRecDepth 100000 in
set_option maxHeartbeats 4000000 in
theorem s_X5_noted {γ : Gm} {l : Launch} {M : Mm} {R : Rm} {K : KT} {sg tx F : Nat → Int32} {rc pl : Nat} {hs S : Nat → Nat → Int32} {c w : Int32}  (h : IC M R sg rc hs F S tx pl) (hE1 : ¬ (0 ≤ c ∧ c < nI (nG sg)) → K (some (.int (-1))) 247 M R) (hE2 : ∀ k m, k < nG sg → m ≤ 60 → c = nI k → sg (122 + 62 * k + 1) = nI m → ¬ (0 ≤ w ∧ w < nI m) → K (some (.int (-1))) 247 M R) (hK : ∀ k m j, k < nG sg → m ≤ 60 → c = nI k → sg (122 + 62 * k + 1) = nI m → j < m → w = nI j → K (some (.int (sg (122 + 62 * k + (2 + m - 1 - j)) + 10000))) 247 M R) : CL γ l mX5_noted 2 247 247 [.ref 8, .int c, .int w] M R K := by
  show WP γ l mX5_noted 2 247 247 0 [some (.ref 8), some (.int c), some (.int w), none] [] 247 M R K
  have hC := h.ib.gr.rc
  have h9 := h.ib.gr.r9
  have h4g := h.ok.g4
  refine wp_iload_n dX5_noted_0 rfl ?_
  refine wp_aload_n dX5_noted_1 rfl ?_
  refine wp_getQ fX5_10 tA_8 rfl hC.f0 (by decide) (Nat.le_of_ble_eq_true rfl) dX5_noted_2 ?_
  refine wp_getJ (v := nI (nG sg)) fX5_135 tb9.t0.1 rfl (by have := tb9.lt; omega) dX5_noted_5 (h.tk.cng.trans h.ok.1.2.1.1) ?_
  refine wp_cS2 (z := mX5_isOutside) (n' := 247) kX5_78 dX5_noted_8 (Nat.le_of_ble_eq_true rfl) (Nat.le_of_ble_eq_true rfl) (Nat.le_of_ble_eq_true rfl) (Nat.le_refl _) (Nat.le_refl _) (s_X5_isOutside (wp_af ?_))
  refine wp_bq_eq (tgt := 16) dX5_noted_11 (by decide) (fun h11 => ?_) (fun h11 => ?_)
  · obtain ⟨k, hk, e_c⟩ := rank_in (by omega) (out_n.mp h11)
    subst e_c
    obtain ⟨⟨cc, hcc, hcv⟩, m, hm60, e_m, hbd0⟩ := h.ok.1.2.2.2.2.1 k hk
    have hk4 : k < 4 := by omega
    have hG := h.tk.cgau hk
    refine wp_aload_n dX5_noted_16 rfl ?_
    refine wp_getQ fX5_10 tA_8 rfl hC.f0 (by decide) (Nat.le_of_ble_eq_true rfl) dX5_noted_17 ?_
    refine wp_getQ fX5_138 tb9.t0.1 rfl h9.f4 (by omega) (by have := tb9.lt; omega) dX5_noted_20 ?_
    refine wp_iload_n dX5_noted_23 rfl ?_
    refine wp_aalq (i := k) rfl (by rw [tb9.t5.1]; decide) (by rw [tb9.t5.2]; omega) ((h9.2.1 k (by omega)).1) (by omega) (by have := tb9.lt; omega) dX5_noted_24 ?_
    refine wp_astore_n (L' := [some (.ref 8), some (.int (nI k)), some (.int w), some (.ref (9 + 12 + 2 * k))]) dX5_noted_25 (by decide) rfl ?_
    refine wp_iload_n dX5_noted_26 rfl ?_
    refine wp_aload_n dX5_noted_27 rfl ?_
    refine wp_getJ (v := nI m) fX5_145 (tb9.tg0 hk4).1 rfl (by have := tb9.lt; omega) dX5_noted_28 (hG.2.1.trans e_m) ?_
    refine wp_cS2 (z := mX5_isOutside) (n' := 247) kX5_78 dX5_noted_31 (Nat.le_of_ble_eq_true rfl) (Nat.le_of_ble_eq_true rfl) (Nat.le_of_ble_eq_true rfl) (Nat.le_refl _) (Nat.le_refl _) (s_X5_isOutside (wp_af ?_))
    refine wp_bq_eq (tgt := 39) dX5_noted_34 (by decide) (fun h34 => ?_) (fun h34 => ?_)
    · obtain ⟨j, hj, e_w⟩ := rank_in (by omega) (out_n.mp h34)
      subst e_w
      refine wp_aload_n dX5_noted_39 rfl ?_
      refine wp_iload_n dX5_noted_40 rfl ?_
      refine wp_cV1 (z := mX0_levelAgo) (n' := 247) kX5_158 dX5_noted_41 (Nat.le_of_ble_eq_true rfl) (Nat.le_of_ble_eq_true rfl) (tb9.tg0 hk4).1 (by have := tb9.lt; omega) (Nat.le_of_ble_eq_true rfl) (Nat.le_refl _) (Nat.le_refl _) (s_X0_levelAgo tb9 h9 hk4 hG hm60 e_m hj (wp_af ?_))
      refine wp_sipush (v := 10000) dX5_noted_44 (by decide) ?_
      refine wp_iadd dX5_noted_47 ?_
      exact wp_iret dX5_noted_48 rfl rfl rfl (by have := hK k m j hk hm60 rfl e_m hj rfl; rwa [show 122 + 62 * k + (2 + m - 1 - j) = 122 + 62 * k + 2 + (m - 1 - j) by omega] at this)
    · refine wp_iconst (v := (-1)) dX5_noted_37 (by decide) ?_
      exact wp_iret dX5_noted_38 rfl rfl rfl (hE2 k m hk hm60 rfl e_m (fun e => (out_n.mpr e) h34))
  · refine wp_iconst (v := (-1)) dX5_noted_14 (by decide) ?_
    exact wp_iret dX5_noted_15 rfl rfl rfl (hE1 (fun e => (out_n.mpr e) h11))

set_option maxRecDepth 100000 in
set_option maxHeartbeats 4000000 in
theorem s_X5_places {γ : Gm} {l : Launch} {M : Mm} {R : Rm} {K : KT} {sg tx F : Nat → Int32} {rc pl : Nat} {hs S : Nat → Nat → Int32} {w : Int32}  (h : IC M R sg rc hs F S tx pl) (hE : ¬ (0 ≤ w ∧ w ≤ 4) → K (some (.long (-2))) 247 M R) (hK : (0 ≤ w ∧ w ≤ 4) → K (some (.long (plcM sg (nP sg) w 40))) 247 M R) : CL γ l mX5_places 3 247 247 [.ref 8, .int w] M R K := by
  show WP γ l mX5_places 3 247 247 0 [some (.ref 8), some (.int w)] [] 247 M R K
  have hC := h.ib.gr.rc
  have h9 := h.ib.gr.r9
  refine wp_iload_n dX5_places_0 rfl ?_
  refine wp_iconst (v := 5) dX5_places_1 (by decide) ?_
  refine wp_cS2 (z := mX5_isOutside) (n' := 247) kX5_78 dX5_places_2 (Nat.le_of_ble_eq_true rfl) (Nat.le_of_ble_eq_true rfl) (Nat.le_of_ble_eq_true rfl) (Nat.le_refl _) (Nat.le_refl _) (s_X5_isOutside (wp_af ?_))
  refine wp_bq_eq (tgt := 14) dX5_places_5 (by decide) (fun h5 => ?_) (fun h5 => ?_)
  · have g5 := out_5.mp h5
    obtain ⟨k, hk, e_c⟩ := place_in g5
    subst e_c
    refine wp_aload_n dX5_places_14 rfl ?_
    refine wp_getQ fX5_10 tA_8 rfl hC.f0 (by decide) (Nat.le_of_ble_eq_true rfl) dX5_places_15 ?_
    refine wp_iload_n dX5_places_18 rfl ?_
    refine wp_cV1 (z := mX4_cellsThatAre) (n' := 247) kX5_163 dX5_places_19 (Nat.le_of_ble_eq_true rfl) (Nat.le_of_ble_eq_true rfl) tb9.t0.1 (by have := tb9.lt; omega) (Nat.le_of_ble_eq_true rfl) (Nat.le_refl _) (Nat.le_refl _) (s_X4_cellsThatAre tb9 h9 h.tk h.ok.1 hk (wp_af ?_))
    exact wp_lret dX5_places_22 rfl rfl (by first | exact hE (fun e => (out_5.mpr e) h5) | exact hK g5)
  · refine wp_ldc2 (v := (-2)) dX5_places_8 q423 ?_
    refine wp_goto (tgt := 22) dX5_places_11 (by decide) ?_
    exact wp_lret dX5_places_22 rfl rfl (by first | exact hE (fun e => (out_5.mpr e) h5) | exact hK g5)

set_option maxRecDepth 100000 in
set_option maxHeartbeats 4000000 in
theorem s_X5_count {γ : Gm} {l : Launch} {M : Mm} {R : Rm} {K : KT} {sg tx F : Nat → Int32} {rc pl : Nat} {hs S : Nat → Nat → Int32} {w : Int32}  (h : IC M R sg rc hs F S tx pl) (hK : K (some (.int (cntR sg (nP sg) (nI pl) (nI rc) w))) 247 M R) : CL γ l mX5_count 3 247 247 [.ref 8, .int w] M R K := by
  show WP γ l mX5_count 3 247 247 0 [some (.ref 8), some (.int w)] [] 247 M R K
  have hC := h.ib.gr.rc
  have h9 := h.ib.gr.r9
  unfold cntR at hK
  refine wp_iload_n dX5_count_0 rfl ?_
  refine wp_tswitch [(0, 68), (1, 76), (2, 84), (3, 96), (4, 104), (5, 115), (6, 123), (7, 131), (8, 139), (9, 139), (10, 139), (11, 152), (12, 160)] 168 dX5_count_1 (by decide) (by decide) (by decide +kernel) ?_
  refine wp_sw (fun h1_0 => ?_) (fun h1_0 => ?_)
  · subst h1_0
    rw [if_pos rfl] at hK
    refine wp_aload_n dX5_count_68 rfl ?_
    refine wp_getQ fX5_10 tA_8 rfl hC.f0 (by decide) (Nat.le_of_ble_eq_true rfl) dX5_count_69 ?_
    refine wp_getJ fX5_129 tb9.t0.1 rfl (by have := tb9.lt; omega) dX5_count_72 (h.tk.cstp) ?_
    exact wp_iret dX5_count_75 rfl rfl rfl (hK)
  refine wp_sw (fun h1_1 => ?_) (fun h1_1 => ?_)
  · subst h1_1
    rw [if_neg (by decide), if_pos rfl] at hK
    refine wp_aload_n dX5_count_76 rfl ?_
    refine wp_getQ fX5_10 tA_8 rfl hC.f0 (by decide) (Nat.le_of_ble_eq_true rfl) dX5_count_77 ?_
    refine wp_getJ fX5_100 tb9.t0.1 rfl (by have := tb9.lt; omega) dX5_count_80 (h.tk.cnp) ?_
    exact wp_iret dX5_count_83 rfl rfl rfl (hK)
  refine wp_sw (fun h1_2 => ?_) (fun h1_2 => ?_)
  · subst h1_2
    rw [if_neg (by decide), if_neg (by decide), if_pos rfl] at hK
    refine wp_aload_n dX5_count_84 rfl ?_
    refine wp_getQ fX5_10 tA_8 rfl hC.f0 (by decide) (Nat.le_of_ble_eq_true rfl) dX5_count_85 ?_
    refine wp_iconst (v := 4) dX5_count_88 (by decide) ?_
    refine wp_cV1 (z := mX4_cellsThatAre) (n' := 247) kX5_163 dX5_count_89 (Nat.le_of_ble_eq_true rfl) (Nat.le_of_ble_eq_true rfl) tb9.t0.1 (by have := tb9.lt; omega) (Nat.le_of_ble_eq_true rfl) (Nat.le_refl _) (Nat.le_refl _) (s_X4_cellsThatAre (w := 4) tb9 h9 h.tk h.ok.1 (by omega) (wp_af ?_))
    refine wp_cS1 (z := mJ13_bitCount_95d88) (n' := 247) kX5_167 dX5_count_92 (Nat.le_of_ble_eq_true rfl) (Nat.le_of_ble_eq_true rfl) (Nat.le_of_ble_eq_true rfl) (Nat.le_refl _) (Nat.le_refl _) (s_J13_bitCount_95d88 (wp_af ?_))
    refine wp_top (pop_stop h.ok.1) ?_
    exact wp_iret dX5_count_95 rfl rfl rfl (hK)
  refine wp_sw (fun h1_3 => ?_) (fun h1_3 => ?_)
  · subst h1_3
    rw [if_neg (by decide), if_neg (by decide), if_neg (by decide), if_pos rfl] at hK
    refine wp_aload_n dX5_count_96 rfl ?_
    refine wp_getQ fX5_10 tA_8 rfl hC.f0 (by decide) (Nat.le_of_ble_eq_true rfl) dX5_count_97 ?_
    refine wp_getJ fX5_135 tb9.t0.1 rfl (by have := tb9.lt; omega) dX5_count_100 (h.tk.cng) ?_
    exact wp_iret dX5_count_103 rfl rfl rfl (hK)
  refine wp_sw (fun h1_4 => ?_) (fun h1_4 => ?_)
  · subst h1_4
    rw [if_neg (by decide), if_neg (by decide), if_neg (by decide), if_neg (by decide), if_pos rfl] at hK
    refine wp_aload_n dX5_count_104 rfl ?_
    refine wp_getQ fX5_10 tA_8 rfl hC.f0 (by decide) (Nat.le_of_ble_eq_true rfl) dX5_count_105 ?_
    refine wp_cV0 (z := mX4_sumOfLevels) (n' := 247) kX5_173 dX5_count_108 (Nat.le_of_ble_eq_true rfl) (Nat.le_of_ble_eq_true rfl) tb9.t0.1 (by have := tb9.lt; omega) (Nat.le_of_ble_eq_true rfl) (Nat.le_refl _) (Nat.le_refl _) (s_X4_sumOfLevels tb9 h9 h.tk (wp_af ?_))
    refine wp_ldc (v := 1000000) dX5_count_111 q448 ?_
    refine wp_iadd dX5_count_113 ?_
    exact wp_iret dX5_count_114 rfl rfl rfl (hK)
  refine wp_sw (fun h1_5 => ?_) (fun h1_5 => ?_)
  · subst h1_5
    rw [if_neg (by decide), if_neg (by decide), if_neg (by decide), if_neg (by decide), if_neg (by decide), if_pos rfl] at hK
    refine wp_aload_n dX5_count_115 rfl ?_
    refine wp_getQ fX5_10 tA_8 rfl hC.f0 (by decide) (Nat.le_of_ble_eq_true rfl) dX5_count_116 ?_
    refine wp_cV0 (z := mX4_motion) (n' := 247) kX5_177 dX5_count_119 (Nat.le_of_ble_eq_true rfl) (Nat.le_of_ble_eq_true rfl) tb9.t0.1 (by have := tb9.lt; omega) (Nat.le_of_ble_eq_true rfl) (Nat.le_refl _) (Nat.le_refl _) (s_X4_motion tb9 h9 h.tk (wp_af ?_))
    exact wp_iret dX5_count_122 rfl rfl rfl (hK)
  refine wp_sw (fun h1_6 => ?_) (fun h1_6 => ?_)
  · subst h1_6
    rw [if_neg (by decide), if_neg (by decide), if_neg (by decide), if_neg (by decide), if_neg (by decide), if_neg (by decide), if_pos rfl] at hK
    refine wp_aload_n dX5_count_123 rfl ?_
    refine wp_getQ fX5_10 tA_8 rfl hC.f0 (by decide) (Nat.le_of_ble_eq_true rfl) dX5_count_124 ?_
    refine wp_cV0 (z := mX4_farthestLevel) (n' := 247) kX5_180 dX5_count_127 (Nat.le_of_ble_eq_true rfl) (Nat.le_of_ble_eq_true rfl) tb9.t0.1 (by have := tb9.lt; omega) (Nat.le_of_ble_eq_true rfl) (Nat.le_refl _) (Nat.le_refl _) (s_X4_farthestLevel tb9 h9 h.tk (wp_af ?_))
    exact wp_iret dX5_count_130 rfl rfl rfl (hK)
  refine wp_sw (fun h1_7 => ?_) (fun h1_7 => ?_)
  · subst h1_7
    rw [if_neg (by decide), if_neg (by decide), if_neg (by decide), if_neg (by decide), if_neg (by decide), if_neg (by decide), if_neg (by decide), if_pos rfl] at hK
    refine wp_aload_n dX5_count_131 rfl ?_
    refine wp_getQ fX5_10 tA_8 rfl hC.f0 (by decide) (Nat.le_of_ble_eq_true rfl) dX5_count_132 ?_
    refine wp_cV0 (z := mX4_lastUnevenCell) (n' := 247) kX5_183 dX5_count_135 (Nat.le_of_ble_eq_true rfl) (Nat.le_of_ble_eq_true rfl) tb9.t0.1 (by have := tb9.lt; omega) (Nat.le_of_ble_eq_true rfl) (Nat.le_refl _) (Nat.le_refl _) (s_X4_lastUnevenCell tb9 h9 h.tk (wp_af ?_))
    exact wp_iret dX5_count_138 rfl rfl rfl (hK)
  refine wp_sw (fun h1_8 => ?_) (fun h1_8 => ?_)
  · subst h1_8
    rw [if_neg (by decide), if_neg (by decide), if_neg (by decide), if_neg (by decide), if_neg (by decide), if_neg (by decide), if_neg (by decide), if_neg (by decide), if_pos rfl] at hK
    refine wp_aload_n dX5_count_139 rfl ?_
    refine wp_getQ fX5_10 tA_8 rfl hC.f0 (by decide) (Nat.le_of_ble_eq_true rfl) dX5_count_140 ?_
    refine wp_getQ fX5_186 tb9.t0.1 rfl h9.f0 (by omega) (by have := tb9.lt; omega) dX5_count_143 ?_
    refine wp_iload_n dX5_count_146 rfl ?_
    refine wp_bipush (v := 8) dX5_count_147 (by decide) ?_
    refine wp_isub dX5_count_149 ?_
    refine wp_iadn (i := (8 - 8)) (ix_sub (a := 8) (b := 8) rfl rfl (by omega)) tb9.t1.1 (by have := tb9.lt; omega) (by rw [tb9.t1.2]; omega) (by have := tb9.lt; omega) dX5_count_150 (h.tk.cset (by omega)) ?_
    exact wp_iret dX5_count_151 rfl rfl rfl (hK)
  refine wp_sw (fun h1_9 => ?_) (fun h1_9 => ?_)
  · subst h1_9
    rw [if_neg (by decide), if_neg (by decide), if_neg (by decide), if_neg (by decide), if_neg (by decide), if_neg (by decide), if_neg (by decide), if_neg (by decide), if_neg (by decide), if_pos rfl] at hK
    refine wp_aload_n dX5_count_139 rfl ?_
    refine wp_getQ fX5_10 tA_8 rfl hC.f0 (by decide) (Nat.le_of_ble_eq_true rfl) dX5_count_140 ?_
    refine wp_getQ fX5_186 tb9.t0.1 rfl h9.f0 (by omega) (by have := tb9.lt; omega) dX5_count_143 ?_
    refine wp_iload_n dX5_count_146 rfl ?_
    refine wp_bipush (v := 8) dX5_count_147 (by decide) ?_
    refine wp_isub dX5_count_149 ?_
    refine wp_iadn (i := (9 - 8)) (ix_sub (a := 9) (b := 8) rfl rfl (by omega)) tb9.t1.1 (by have := tb9.lt; omega) (by rw [tb9.t1.2]; omega) (by have := tb9.lt; omega) dX5_count_150 (h.tk.cset (by omega)) ?_
    exact wp_iret dX5_count_151 rfl rfl rfl (hK)
  refine wp_sw (fun h1_10 => ?_) (fun h1_10 => ?_)
  · subst h1_10
    rw [if_neg (by decide), if_neg (by decide), if_neg (by decide), if_neg (by decide), if_neg (by decide), if_neg (by decide), if_neg (by decide), if_neg (by decide), if_neg (by decide), if_neg (by decide), if_pos rfl] at hK
    refine wp_aload_n dX5_count_139 rfl ?_
    refine wp_getQ fX5_10 tA_8 rfl hC.f0 (by decide) (Nat.le_of_ble_eq_true rfl) dX5_count_140 ?_
    refine wp_getQ fX5_186 tb9.t0.1 rfl h9.f0 (by omega) (by have := tb9.lt; omega) dX5_count_143 ?_
    refine wp_iload_n dX5_count_146 rfl ?_
    refine wp_bipush (v := 8) dX5_count_147 (by decide) ?_
    refine wp_isub dX5_count_149 ?_
    refine wp_iadn (i := (10 - 8)) (ix_sub (a := 10) (b := 8) rfl rfl (by omega)) tb9.t1.1 (by have := tb9.lt; omega) (by rw [tb9.t1.2]; omega) (by have := tb9.lt; omega) dX5_count_150 (h.tk.cset (by omega)) ?_
    exact wp_iret dX5_count_151 rfl rfl rfl (hK)
  refine wp_sw (fun h1_11 => ?_) (fun h1_11 => ?_)
  · subst h1_11
    rw [if_neg (by decide), if_neg (by decide), if_neg (by decide), if_neg (by decide), if_neg (by decide), if_neg (by decide), if_neg (by decide), if_neg (by decide), if_neg (by decide), if_neg (by decide), if_neg (by decide), if_pos rfl] at hK
    refine wp_aload_n dX5_count_152 rfl ?_
    refine wp_getQ fX5_19 tA_8 rfl hC.f1 (by decide) (Nat.le_of_ble_eq_true rfl) dX5_count_153 ?_
    refine wp_getJ fX5_189 tA_29 rfl (Nat.le_of_ble_eq_true rfl) dX5_count_156 (h.ib.hp) ?_
    exact wp_iret dX5_count_159 rfl rfl rfl (hK)
  refine wp_sw (fun h1_12 => ?_) (fun h1_12 => ?_)
  · subst h1_12
    rw [if_neg (by decide), if_neg (by decide), if_neg (by decide), if_neg (by decide), if_neg (by decide), if_neg (by decide), if_neg (by decide), if_neg (by decide), if_neg (by decide), if_neg (by decide), if_neg (by decide), if_neg (by decide), if_pos rfl] at hK
    refine wp_aload_n dX5_count_160 rfl ?_
    refine wp_getQ fX5_26 tA_8 rfl hC.f2 (by decide) (Nat.le_of_ble_eq_true rfl) dX5_count_161 ?_
    refine wp_getJ fX5_192 tA_31 rfl (Nat.le_of_ble_eq_true rfl) dX5_count_164 (h.ib.hi.1) ?_
    exact wp_iret dX5_count_167 rfl rfl rfl (hK)
  refine wp_sw0 ?_
  refine wp_bipush (v := (-2)) dX5_count_168 (by decide) ?_
  exact wp_iret dX5_count_170 rfl rfl rfl (by rw [if_neg h1_0, if_neg h1_1, if_neg h1_2, if_neg h1_3, if_neg h1_4, if_neg h1_5, if_neg h1_6, if_neg h1_7, if_neg h1_8, if_neg h1_9, if_neg h1_10, if_neg h1_11, if_neg h1_12] at hK; exact hK)
