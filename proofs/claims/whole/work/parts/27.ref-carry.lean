/-! THE REFERENCE: the carrying out of orders -/
def nP (sg : Nat → Int32) : Nat := (sg 4).toNatClampNeg
def nG (sg : Nat → Int32) : Nat := (sg 5).toNatClampNeg
theorem Ok0.nP {sg : Nat → Int32} {np ng : Nat} (h : Ok0 sg np ng) : nP sg = np := by
  have := h.1.2
  show (sg 4).toNatClampNeg = np
  rw [h.1.1, nI_clamp (by omega)]
theorem Ok0.nG {sg : Nat → Int32} {np ng : Nat} (h : Ok0 sg np ng) : nG sg = ng := by
  have := h.2.1.2
  show (sg 5).toNatClampNeg = ng
  rw [h.2.1.1, nI_clamp (by omega)]
/-- whether an order can be done in a state, and what it makes of it -/
def cdF (sg : Nat → Int32) (k t s : Nat) (v : Int32) (p f : Nat) : Bool :=
  if k = 112 then decide (whyP sg (nP sg) (nI t) (nI s) v (nI p) (nI f) = 0)
  else if k = 120 then decide (¬ rkU sg (nI t) (nP sg) = -6)
  else if k = 103 then decide (whyG (nG sg) (nI t) = 0)
  else if k = 116 then decide (whyN sg (nI t) = 0)
  else decide (0 ≤ nI t ∧ nI t ≤ 39)
def doF (sg : Nat → Int32) (k t s : Nat) (v : Int32) (p f : Nat) : Nat → Int32 :=
  if k = 112 then puF sg (nP sg) (nI t) (nI s) v (nI p) (nI f)
  else if k = 120 then lfF sg (nP sg) (rkU sg (nI t) (nP sg)).toNatClampNeg
  else if k = 103 then cgF sg (nG sg) (nI t)
  else if k = 116 then psF (nP sg) (nG sg) sg t
  else up sg (6 + t) v
def OM (M : Mm) (k t s : Nat) (v : Int32) (p f : Nat) : Prop := M 235 9 = nI k ∧ M 242 0 = nI t ∧ (k = 112 → M 242 1 = v ∧ M 242 2 = nI p ∧ M 242 3 = nI f ∧ M 235 10 = nI s) ∧ (k = 108 → M 242 1 = v)
theorem RO.om {M0 M : Mm} {tx : Nat → Int32} {pl a k t s p f : Nat} {v : Int32} (h : RO M0 M tx pl a) (e : (rdO tx pl a).1 = some (k, t, s, v, p, f)) : OM M k t s v p f := by
  obtain ⟨m, nb, lt, so, h1, h2⟩ := h
  obtain ⟨a1, a2, a3, a4⟩ := h2 k t s v p f e
  exact ⟨h1.plt.trans a1, by rw [h1.pnb]; exact a2, fun q => by rw [h1.pnb, h1.pso]; exact a3 q, fun q => by rw [h1.pnb]; exact a4 q⟩
def kdO (k : Nat) : Prop := k = 112 ∨ k = 108 ∨ k = 120 ∨ k = 103 ∨ k = 116
set_option maxRecDepth 100000 in
set_option maxHeartbeats 4000000 in
theorem s_X6_canDo {γ : Gm} {l : Launch} {M : Mm} {R : Rm} {K : KT} {sg : Nat → Int32} {np ng k t s p f : Nat} {v : Int32}  (hs : M 236 = sg) (hM : RM R) (ho : Ok0 sg np ng) (hO : OM M k t s v p f) (hk : kdO k) (hK : K (some (.int (b01 (cdF sg k t s v p f = true)))) 243 M R) : CL γ l mX6_canDo 3 243 243 [.ref 235] M R K := by
  show WP γ l mX6_canDo 3 243 243 0 [some (.ref 235)] [] 243 M R K
  refine wp_aload_n dX6_canDo_0 rfl ?_
  refine wp_getJ (v := nI k) fX6_195 tA_235 rfl (Nat.le_of_ble_eq_true rfl) dX6_canDo_1 (hO.1) ?_
  refine wp_lswitch [(103, 110), (112, 48), (116, 129), (120, 89)] 148 dX6_canDo_4 (by decide +kernel) (by decide +kernel) ?_
  refine wp_sw (fun h4_0 => ?_) (fun h4_0 => ?_)
  · have g : k = 103 := (nI_eq (by unfold kdO at hk; omega) (by decide)).mp (show nI k = nI 103 from h4_0)
    subst g
    refine wp_aload_n dX6_canDo_110 rfl ?_
    refine wp_aload_n dX6_canDo_111 rfl ?_
    refine wp_getQ fX6_28 tA_235 rfl hM.f11 (by decide) (Nat.le_of_ble_eq_true rfl) dX6_canDo_112 ?_
    refine wp_iconst (v := 0) dX6_canDo_115 (by decide) ?_
    refine wp_iadn (i := 0) (v := nI t) rfl tA_242 (Nat.le_of_ble_eq_true rfl) (by rw [lA_242]; omega) (Nat.le_of_ble_eq_true rfl) dX6_canDo_116 (hO.2.1) ?_
    refine wp_cV1 (z := mX6_whyNoGauge) (n' := 243) kX6_106 dX6_canDo_117 (Nat.le_of_ble_eq_true rfl) (Nat.le_of_ble_eq_true rfl) tA_235 (Nat.le_of_ble_eq_true rfl) (Nat.le_of_ble_eq_true rfl) (Nat.le_refl _) (Nat.le_refl _) (s_X6_whyNoGauge hs hM ho.2.1.1 ho.2.1.2 (wp_af ?_))
    refine wp_if_ne (tgt := 127) dX6_canDo_120 (by decide) (fun h120 => ?_) (fun h120 => ?_)
    · refine wp_iconst (v := 0) dX6_canDo_127 (by decide) ?_
      exact wp_iret dX6_canDo_128 rfl rfl rfl (by
      have e := hK
      unfold cdF at e
      rw [ho.nP, ho.nG] at e
      first
        | (rw [b01_t (by simp [h120])] at e; exact e)
        | (rw [b01_f (by simp [h120])] at e; exact e))
    · refine wp_iconst (v := 1) dX6_canDo_123 (by decide) ?_
      refine wp_goto (tgt := 128) dX6_canDo_124 (by decide) ?_
      exact wp_iret dX6_canDo_128 rfl rfl rfl (by
      have e := hK
      unfold cdF at e
      rw [ho.nP, ho.nG] at e
      first
        | (rw [b01_t (by simp [h120])] at e; exact e)
        | (rw [b01_f (by simp [h120])] at e; exact e))
  refine wp_sw (fun h4_1 => ?_) (fun h4_1 => ?_)
  · have g : k = 112 := (nI_eq (by unfold kdO at hk; omega) (by decide)).mp (show nI k = nI 112 from h4_1)
    subst g
    refine wp_aload_n dX6_canDo_48 rfl ?_
    refine wp_aload_n dX6_canDo_49 rfl ?_
    refine wp_getQ fX6_28 tA_235 rfl hM.f11 (by decide) (Nat.le_of_ble_eq_true rfl) dX6_canDo_50 ?_
    refine wp_iconst (v := 0) dX6_canDo_53 (by decide) ?_
    refine wp_iadn (i := 0) (v := nI t) rfl tA_242 (Nat.le_of_ble_eq_true rfl) (by rw [lA_242]; omega) (Nat.le_of_ble_eq_true rfl) dX6_canDo_54 (hO.2.1) ?_
    refine wp_aload_n dX6_canDo_55 rfl ?_
    refine wp_getJ (v := nI s) fX6_186 tA_235 rfl (Nat.le_of_ble_eq_true rfl) dX6_canDo_56 ((hO.2.2.1 rfl).2.2.2) ?_
    refine wp_aload_n dX6_canDo_59 rfl ?_
    refine wp_getQ fX6_28 tA_235 rfl hM.f11 (by decide) (Nat.le_of_ble_eq_true rfl) dX6_canDo_60 ?_
    refine wp_iconst (v := 1) dX6_canDo_63 (by decide) ?_
    refine wp_iadn (i := 1) rfl tA_242 (Nat.le_of_ble_eq_true rfl) (by rw [lA_242]; omega) (Nat.le_of_ble_eq_true rfl) dX6_canDo_64 ((hO.2.2.1 rfl).1) ?_
    refine wp_aload_n dX6_canDo_65 rfl ?_
    refine wp_getQ fX6_28 tA_235 rfl hM.f11 (by decide) (Nat.le_of_ble_eq_true rfl) dX6_canDo_66 ?_
    refine wp_iconst (v := 2) dX6_canDo_69 (by decide) ?_
    refine wp_iadn (i := 2) (v := nI p) rfl tA_242 (Nat.le_of_ble_eq_true rfl) (by rw [lA_242]; omega) (Nat.le_of_ble_eq_true rfl) dX6_canDo_70 ((hO.2.2.1 rfl).2.1) ?_
    refine wp_aload_n dX6_canDo_71 rfl ?_
    refine wp_getQ fX6_28 tA_235 rfl hM.f11 (by decide) (Nat.le_of_ble_eq_true rfl) dX6_canDo_72 ?_
    refine wp_iconst (v := 3) dX6_canDo_75 (by decide) ?_
    refine wp_iadn (i := 3) (v := nI f) rfl tA_242 (Nat.le_of_ble_eq_true rfl) (by rw [lA_242]; omega) (Nat.le_of_ble_eq_true rfl) dX6_canDo_76 ((hO.2.2.1 rfl).2.2.1) ?_
    refine wp_cV5 (z := mX6_whyNoPaddle) (n' := 243) kX6_94 dX6_canDo_77 (Nat.le_of_ble_eq_true rfl) (Nat.le_of_ble_eq_true rfl) tA_235 (Nat.le_of_ble_eq_true rfl) (Nat.le_of_ble_eq_true rfl) (Nat.le_refl _) (Nat.le_refl _) (s_X6_whyNoPaddle hs hM ho.1.1 ho.1.2 (wp_af ?_))
    refine wp_if_ne (tgt := 87) dX6_canDo_80 (by decide) (fun h80 => ?_) (fun h80 => ?_)
    · refine wp_iconst (v := 0) dX6_canDo_87 (by decide) ?_
      exact wp_iret dX6_canDo_88 rfl rfl rfl (by
      have e := hK
      unfold cdF at e
      rw [ho.nP, ho.nG] at e
      first
        | (rw [b01_t (by simp [h80])] at e; exact e)
        | (rw [b01_f (by simp [h80])] at e; exact e))
    · refine wp_iconst (v := 1) dX6_canDo_83 (by decide) ?_
      refine wp_goto (tgt := 88) dX6_canDo_84 (by decide) ?_
      exact wp_iret dX6_canDo_88 rfl rfl rfl (by
      have e := hK
      unfold cdF at e
      rw [ho.nP, ho.nG] at e
      first
        | (rw [b01_t (by simp [h80])] at e; exact e)
        | (rw [b01_f (by simp [h80])] at e; exact e))
  refine wp_sw (fun h4_2 => ?_) (fun h4_2 => ?_)
  · have g : k = 116 := (nI_eq (by unfold kdO at hk; omega) (by decide)).mp (show nI k = nI 116 from h4_2)
    subst g
    refine wp_aload_n dX6_canDo_129 rfl ?_
    refine wp_aload_n dX6_canDo_130 rfl ?_
    refine wp_getQ fX6_28 tA_235 rfl hM.f11 (by decide) (Nat.le_of_ble_eq_true rfl) dX6_canDo_131 ?_
    refine wp_iconst (v := 0) dX6_canDo_134 (by decide) ?_
    refine wp_iadn (i := 0) (v := nI t) rfl tA_242 (Nat.le_of_ble_eq_true rfl) (by rw [lA_242]; omega) (Nat.le_of_ble_eq_true rfl) dX6_canDo_135 (hO.2.1) ?_
    refine wp_cV1 (z := mX6_whyNotPassed) (n' := 243) kX6_113 dX6_canDo_136 (Nat.le_of_ble_eq_true rfl) (Nat.le_of_ble_eq_true rfl) tA_235 (Nat.le_of_ble_eq_true rfl) (Nat.le_of_ble_eq_true rfl) (Nat.le_refl _) (Nat.le_refl _) (s_X6_whyNotPassed hs hM (wp_af ?_))
    refine wp_if_ne (tgt := 146) dX6_canDo_139 (by decide) (fun h139 => ?_) (fun h139 => ?_)
    · refine wp_iconst (v := 0) dX6_canDo_146 (by decide) ?_
      exact wp_iret dX6_canDo_147 rfl rfl rfl (by
      have e := hK
      unfold cdF at e
      rw [ho.nP, ho.nG] at e
      first
        | (rw [b01_t (by simp [h139])] at e; exact e)
        | (rw [b01_f (by simp [h139])] at e; exact e))
    · refine wp_iconst (v := 1) dX6_canDo_142 (by decide) ?_
      refine wp_goto (tgt := 147) dX6_canDo_143 (by decide) ?_
      exact wp_iret dX6_canDo_147 rfl rfl rfl (by
      have e := hK
      unfold cdF at e
      rw [ho.nP, ho.nG] at e
      first
        | (rw [b01_t (by simp [h139])] at e; exact e)
        | (rw [b01_f (by simp [h139])] at e; exact e))
  refine wp_sw (fun h4_3 => ?_) (fun h4_3 => ?_)
  · have g : k = 120 := (nI_eq (by unfold kdO at hk; omega) (by decide)).mp (show nI k = nI 120 from h4_3)
    subst g
    refine wp_aload_n dX6_canDo_89 rfl ?_
    refine wp_aload_n dX6_canDo_90 rfl ?_
    refine wp_getQ fX6_28 tA_235 rfl hM.f11 (by decide) (Nat.le_of_ble_eq_true rfl) dX6_canDo_91 ?_
    refine wp_iconst (v := 0) dX6_canDo_94 (by decide) ?_
    refine wp_iadn (i := 0) (v := nI t) rfl tA_242 (Nat.le_of_ble_eq_true rfl) (by rw [lA_242]; omega) (Nat.le_of_ble_eq_true rfl) dX6_canDo_95 (hO.2.1) ?_
    refine wp_cV1 (z := mX6_rankIn) (n' := 243) kX6_87 dX6_canDo_96 (Nat.le_of_ble_eq_true rfl) (Nat.le_of_ble_eq_true rfl) tA_235 (Nat.le_of_ble_eq_true rfl) (Nat.le_of_ble_eq_true rfl) (Nat.le_refl _) (Nat.le_refl _) (s_X6_rankIn hs hM ho.1.1 ho.1.2 (wp_af ?_))
    refine wp_bipush (v := (-6)) dX6_canDo_99 (by decide) ?_
    refine wp_icmp_eq (tgt := 108) dX6_canDo_101 (by decide) (fun h101 => ?_) (fun h101 => ?_)
    · refine wp_iconst (v := 0) dX6_canDo_108 (by decide) ?_
      exact wp_iret dX6_canDo_109 rfl rfl rfl (by
      have e := hK
      unfold cdF at e
      rw [ho.nP, ho.nG] at e
      first
        | (rw [b01_t (by simp [h101])] at e; exact e)
        | (rw [b01_f (by simp [h101])] at e; exact e))
    · refine wp_iconst (v := 1) dX6_canDo_104 (by decide) ?_
      refine wp_goto (tgt := 109) dX6_canDo_105 (by decide) ?_
      exact wp_iret dX6_canDo_109 rfl rfl rfl (by
      have e := hK
      unfold cdF at e
      rw [ho.nP, ho.nG] at e
      first
        | (rw [b01_t (by simp [h101])] at e; exact e)
        | (rw [b01_f (by simp [h101])] at e; exact e))
  refine wp_sw0 ?_
  have g8 : k = 108 := by
    unfold kdO at hk
    have q0 : ¬ k = 103 := fun e => h4_0 (by rw [e]; rfl)
    have q1 : ¬ k = 112 := fun e => h4_1 (by rw [e]; rfl)
    have q2 : ¬ k = 116 := fun e => h4_2 (by rw [e]; rfl)
    have q3 : ¬ k = 120 := fun e => h4_3 (by rw [e]; rfl)
    omega
  subst g8
  refine wp_aload_n dX6_canDo_148 rfl ?_
  refine wp_getQ fX6_28 tA_235 rfl hM.f11 (by decide) (Nat.le_of_ble_eq_true rfl) dX6_canDo_149 ?_
  refine wp_iconst (v := 0) dX6_canDo_152 (by decide) ?_
  refine wp_iadn (i := 0) (v := nI t) rfl tA_242 (Nat.le_of_ble_eq_true rfl) (by rw [lA_242]; omega) (Nat.le_of_ble_eq_true rfl) dX6_canDo_153 (hO.2.1) ?_
  refine wp_cS1 (z := mX6_isCell) (n' := 243) kX6_102 dX6_canDo_154 (Nat.le_of_ble_eq_true rfl) (Nat.le_of_ble_eq_true rfl) (Nat.le_of_ble_eq_true rfl) (Nat.le_refl _) (Nat.le_refl _) (s_X6_isCell (wp_af ?_))
  exact wp_iret dX6_canDo_157 rfl b01_n rfl (by
      have e := hK
      unfold cdF at e
      rw [b01_c (q := 0 ≤ nI t ∧ nI t ≤ 39) (by simp)] at e
      exact e)

set_option maxRecDepth 100000 in
set_option maxHeartbeats 4000000 in
theorem s_X6_does {γ : Gm} {l : Launch} {M : Mm} {R : Rm} {K : KT} {sg : Nat → Int32} {np ng k t s p f : Nat} {v : Int32}  (hs : M 236 = sg) (hM : RM R) (ho : Ok0 sg np ng) (hO : OM M k t s v p f) (hk : kdO k) (ht : t < 1000) (hcd : cdF sg k t s v p f = true) (hK : K none 243 (up M 236 (doF sg k t s v p f)) R) : CL γ l mX6_does 5 243 243 [.ref 235] M R K := by
  show WP γ l mX6_does 5 243 243 0 [some (.ref 235)] [] 243 M R K
  refine wp_aload_n dX6_does_0 rfl ?_
  refine wp_getJ (v := nI k) fX6_195 tA_235 rfl (Nat.le_of_ble_eq_true rfl) dX6_does_1 (hO.1) ?_
  refine wp_lswitch [(103, 100), (112, 48), (116, 114), (120, 83)] 128 dX6_does_4 (by decide +kernel) (by decide +kernel) ?_
  refine wp_sw (fun h4_0 => ?_) (fun h4_0 => ?_)
  · have g : k = 103 := (nI_eq (by unfold kdO at hk; omega) (by decide)).mp (show nI k = nI 103 from h4_0)
    subst g
    have c0 : whyG ng (nI t) = 0 := by have e := hcd; unfold cdF at e; simpa [ho.nP, ho.nG] using e
    have eD : doF sg 103 t s v p f = cgF sg ng (nI t) := by simp [doF, ho.nG]
    have hg : ng < 4 := by have := ho.2.1.2; have q : ¬ ng = 4 := (fun q => by unfold whyG at c0; rw [if_pos q] at c0; split at c0; all_goals exact absurd c0 (by decide)); omega
    refine wp_aload_n dX6_does_100 rfl ?_
    refine wp_aload_n dX6_does_101 rfl ?_
    refine wp_getQ fX6_28 tA_235 rfl hM.f11 (by decide) (Nat.le_of_ble_eq_true rfl) dX6_does_102 ?_
    refine wp_iconst (v := 0) dX6_does_105 (by decide) ?_
    refine wp_iadn (i := 0) (v := nI t) rfl tA_242 (Nat.le_of_ble_eq_true rfl) (by rw [lA_242]; omega) (Nat.le_of_ble_eq_true rfl) dX6_does_106 (hO.2.1) ?_
    refine wp_cV1 (z := mX6_comesGauge) (n' := 243) kX6_109 dX6_does_107 (Nat.le_of_ble_eq_true rfl) (Nat.le_of_ble_eq_true rfl) tA_235 (Nat.le_of_ble_eq_true rfl) (Nat.le_of_ble_eq_true rfl) (Nat.le_refl _) (Nat.le_refl _) (s_X6_comesGauge hs hM ho.2.1.1 hg (wp_af ?_))
    refine wp_pop dX6_does_110 rfl ?_
    refine wp_goto (tgt := 148) dX6_does_111 (by decide) ?_
    exact wp_vret dX6_does_148 rfl rfl (eD ▸ hK)
  refine wp_sw (fun h4_1 => ?_) (fun h4_1 => ?_)
  · have g : k = 112 := (nI_eq (by unfold kdO at hk; omega) (by decide)).mp (show nI k = nI 112 from h4_1)
    subst g
    have c0 : whyP sg np (nI t) (nI s) v (nI p) (nI f) = 0 := by have e := hcd; unfold cdF at e; simpa [ho.nP, ho.nG] using e
    have eD : doF sg 112 t s v p f = puF sg np (nI t) (nI s) v (nI p) (nI f) := by simp [doF, ho.nP]
    have hw : ¬ (rkU sg (nI t) np = -6 ∧ np = 6) := fun q => by unfold whyP at c0; rw [if_pos q] at c0; split at c0; split at c0; all_goals exact absurd c0 (by decide)
    refine wp_aload_n dX6_does_48 rfl ?_
    refine wp_aload_n dX6_does_49 rfl ?_
    refine wp_getQ fX6_28 tA_235 rfl hM.f11 (by decide) (Nat.le_of_ble_eq_true rfl) dX6_does_50 ?_
    refine wp_iconst (v := 0) dX6_does_53 (by decide) ?_
    refine wp_iadn (i := 0) (v := nI t) rfl tA_242 (Nat.le_of_ble_eq_true rfl) (by rw [lA_242]; omega) (Nat.le_of_ble_eq_true rfl) dX6_does_54 (hO.2.1) ?_
    refine wp_aload_n dX6_does_55 rfl ?_
    refine wp_getJ (v := nI s) fX6_186 tA_235 rfl (Nat.le_of_ble_eq_true rfl) dX6_does_56 ((hO.2.2.1 rfl).2.2.2) ?_
    refine wp_aload_n dX6_does_59 rfl ?_
    refine wp_getQ fX6_28 tA_235 rfl hM.f11 (by decide) (Nat.le_of_ble_eq_true rfl) dX6_does_60 ?_
    refine wp_iconst (v := 1) dX6_does_63 (by decide) ?_
    refine wp_iadn (i := 1) rfl tA_242 (Nat.le_of_ble_eq_true rfl) (by rw [lA_242]; omega) (Nat.le_of_ble_eq_true rfl) dX6_does_64 ((hO.2.2.1 rfl).1) ?_
    refine wp_aload_n dX6_does_65 rfl ?_
    refine wp_getQ fX6_28 tA_235 rfl hM.f11 (by decide) (Nat.le_of_ble_eq_true rfl) dX6_does_66 ?_
    refine wp_iconst (v := 2) dX6_does_69 (by decide) ?_
    refine wp_iadn (i := 2) (v := nI p) rfl tA_242 (Nat.le_of_ble_eq_true rfl) (by rw [lA_242]; omega) (Nat.le_of_ble_eq_true rfl) dX6_does_70 ((hO.2.2.1 rfl).2.1) ?_
    refine wp_aload_n dX6_does_71 rfl ?_
    refine wp_getQ fX6_28 tA_235 rfl hM.f11 (by decide) (Nat.le_of_ble_eq_true rfl) dX6_does_72 ?_
    refine wp_iconst (v := 3) dX6_does_75 (by decide) ?_
    refine wp_iadn (i := 3) (v := nI f) rfl tA_242 (Nat.le_of_ble_eq_true rfl) (by rw [lA_242]; omega) (Nat.le_of_ble_eq_true rfl) dX6_does_76 ((hO.2.2.1 rfl).2.2.1) ?_
    refine wp_cV5 (z := mX6_puts) (n' := 243) kX6_98 dX6_does_77 (Nat.le_of_ble_eq_true rfl) (Nat.le_of_ble_eq_true rfl) tA_235 (Nat.le_of_ble_eq_true rfl) (Nat.le_of_ble_eq_true rfl) (Nat.le_refl _) (Nat.le_refl _) (s_X6_puts hs hM ho.1.1 ho.1.2 hw (wp_af0 ?_))
    refine wp_goto (tgt := 148) dX6_does_80 (by decide) ?_
    exact wp_vret dX6_does_148 rfl rfl (eD ▸ hK)
  refine wp_sw (fun h4_2 => ?_) (fun h4_2 => ?_)
  · have g : k = 116 := (nI_eq (by unfold kdO at hk; omega) (by decide)).mp (show nI k = nI 116 from h4_2)
    subst g
    have c0 : whyN sg (nI t) = 0 := by have e := hcd; unfold cdF at e; simpa [ho.nP, ho.nG] using e
    have eD : doF sg 116 t s v p f = psF np ng sg t := by simp [doF, ho.nP, ho.nG]
    refine wp_aload_n dX6_does_114 rfl ?_
    refine wp_aload_n dX6_does_115 rfl ?_
    refine wp_getQ fX6_28 tA_235 rfl hM.f11 (by decide) (Nat.le_of_ble_eq_true rfl) dX6_does_116 ?_
    refine wp_iconst (v := 0) dX6_does_119 (by decide) ?_
    refine wp_iadn (i := 0) (v := nI t) rfl tA_242 (Nat.le_of_ble_eq_true rfl) (by rw [lA_242]; omega) (Nat.le_of_ble_eq_true rfl) dX6_does_120 (hO.2.1) ?_
    refine wp_cV1 (z := mX6_passes) (n' := 243) kX6_116 dX6_does_121 (Nat.le_of_ble_eq_true rfl) (Nat.le_of_ble_eq_true rfl) tA_235 (Nat.le_of_ble_eq_true rfl) (Nat.le_of_ble_eq_true rfl) (Nat.le_refl _) (Nat.le_refl _) (s_X6_passes hs hM ht ho (wp_af ?_))
    refine wp_pop dX6_does_124 rfl ?_
    refine wp_goto (tgt := 148) dX6_does_125 (by decide) ?_
    exact wp_vret dX6_does_148 rfl rfl (eD ▸ hK)
  refine wp_sw (fun h4_3 => ?_) (fun h4_3 => ?_)
  · have g : k = 120 := (nI_eq (by unfold kdO at hk; omega) (by decide)).mp (show nI k = nI 120 from h4_3)
    subst g
    have c0 : ¬ rkU sg (nI t) np = -6 := by have e := hcd; unfold cdF at e; simpa [ho.nP, ho.nG] using e
    obtain ⟨k2, hk2, e2⟩ := rkU_in c0
    have eD : doF sg 120 t s v p f = lfF sg np k2 := by have := ho.1.2; simp [doF, ho.nP]; rw [e2, nI_clamp (by omega)]
    refine wp_aload_n dX6_does_83 rfl ?_
    refine wp_aload_n dX6_does_84 rfl ?_
    refine wp_aload_n dX6_does_85 rfl ?_
    refine wp_getQ fX6_28 tA_235 rfl hM.f11 (by decide) (Nat.le_of_ble_eq_true rfl) dX6_does_86 ?_
    refine wp_iconst (v := 0) dX6_does_89 (by decide) ?_
    refine wp_iadn (i := 0) (v := nI t) rfl tA_242 (Nat.le_of_ble_eq_true rfl) (by rw [lA_242]; omega) (Nat.le_of_ble_eq_true rfl) dX6_does_90 (hO.2.1) ?_
    refine wp_cV1 (z := mX6_rankIn) (n' := 243) kX6_87 dX6_does_91 (Nat.le_of_ble_eq_true rfl) (Nat.le_of_ble_eq_true rfl) tA_235 (Nat.le_of_ble_eq_true rfl) (Nat.le_of_ble_eq_true rfl) (Nat.le_refl _) (Nat.le_refl _) (s_X6_rankIn hs hM ho.1.1 ho.1.2 (wp_af ?_))
    refine wp_top e2 ?_
    refine wp_cV1 (z := mX6_lifts) (n' := 243) kX6_90 dX6_does_94 (Nat.le_of_ble_eq_true rfl) (Nat.le_of_ble_eq_true rfl) tA_235 (Nat.le_of_ble_eq_true rfl) (Nat.le_of_ble_eq_true rfl) (Nat.le_refl _) (Nat.le_refl _) (s_X6_lifts hs hM ho.1.1 ho.1.2 hk2 (wp_af0 ?_))
    refine wp_goto (tgt := 148) dX6_does_97 (by decide) ?_
    exact wp_vret dX6_does_148 rfl rfl (eD ▸ hK)
  refine wp_sw0 ?_
  have g8 : k = 108 := by
    unfold kdO at hk
    have q0 : ¬ k = 103 := fun e => h4_0 (by rw [e]; rfl)
    have q1 : ¬ k = 112 := fun e => h4_1 (by rw [e]; rfl)
    have q2 : ¬ k = 116 := fun e => h4_2 (by rw [e]; rfl)
    have q3 : ¬ k = 120 := fun e => h4_3 (by rw [e]; rfl)
    omega
  subst g8
  have c0 : 0 ≤ nI t ∧ nI t ≤ 39 := by have e := hcd; unfold cdF at e; simpa [ho.nP, ho.nG] using e
  have eD : doF sg 108 t s v p f = up sg (6 + t) v := by simp [doF]
  have ht40 : t < 40 := by have := (nI_leI (by omega) (by decide)).mp (show nI t ≤ nI 39 from c0.2); omega
  refine wp_aload_n dX6_does_128 rfl ?_
  refine wp_getQ fX6_7 tA_235 rfl hM.f0 (by decide) (Nat.le_of_ble_eq_true rfl) dX6_does_129 ?_
  refine wp_bipush (v := 6) dX6_does_132 (by decide) ?_
  refine wp_aload_n dX6_does_134 rfl ?_
  refine wp_getQ fX6_28 tA_235 rfl hM.f11 (by decide) (Nat.le_of_ble_eq_true rfl) dX6_does_135 ?_
  refine wp_iconst (v := 0) dX6_does_138 (by decide) ?_
  refine wp_iadn (i := 0) (v := nI t) rfl tA_242 (Nat.le_of_ble_eq_true rfl) (by rw [lA_242]; omega) (Nat.le_of_ble_eq_true rfl) dX6_does_139 (hO.2.1) ?_
  refine wp_iadd dX6_does_140 ?_
  refine wp_aload_n dX6_does_141 rfl ?_
  refine wp_getQ fX6_28 tA_235 rfl hM.f11 (by decide) (Nat.le_of_ble_eq_true rfl) dX6_does_142 ?_
  refine wp_iconst (v := 1) dX6_does_145 (by decide) ?_
  refine wp_iadn (i := 1) rfl tA_242 (Nat.le_of_ble_eq_true rfl) (by rw [lA_242]; omega) (Nat.le_of_ble_eq_true rfl) dX6_does_146 (hO.2.2.2 rfl) ?_
  refine wp_iast (i := (6 + t)) (ix_add rfl rfl) tA_236 (Nat.le_of_ble_eq_true rfl) (by rw [lA_236]; omega) (Nat.le_of_ble_eq_true rfl) dX6_does_147 ?_
  refine wp_mem (u2_at hs) ?_
  exact wp_vret dX6_does_148 rfl rfl (eD ▸ hK)

