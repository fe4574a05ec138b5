/-! THE CLASS: tanks copied -/
/-- copied to the tank at b so far: its settings, water, k paddles, g gauges -/
def CpI (M0 M1 : Mm) (R : Rm) (b k g : Nat) (sg : Nat → Int32) : Prop := FrM b M0 M1 ∧ (∀ i, i < 3 → M1 (b + 1) i = sg i) ∧ (∀ i, i < 40 → M1 (b + 2) i = sg (6 + i)) ∧ (∀ i, i < 40 → M1 (b + 3) i = sg (46 + i)) ∧ (∀ i, i < k → ∀ j, j < 6 → M1 (R (b + 4) i) j = sg (86 + 6 * i + j)) ∧ ∀ q, q < g → GkO M1 b q sg
theorem CpI.b5 {M0 M1 : Mm} {R : Rm} {b k g j : Nat} {v : Int32} {sg : Nat → Int32} (h : CpI M0 M1 R b k g sg) (hR : RT R b) (hk : k ≤ 6) : CpI M0 (u2 M1 b j v) R b k g sg := by
  obtain ⟨h1, h2, h3, h4, h5, h6⟩ := h
  refine ⟨h1.u (by omega) (by omega), fun i hi => by rw [u2_n _ _ _ (by omega)]; exact h2 i hi, fun i hi => by rw [u2_n _ _ _ (by omega)]; exact h3 i hi, fun i hi => by rw [u2_n _ _ _ (by omega)]; exact h4 i hi, fun i hi j hj => ?_, fun q hq => (h6 q hq).congr (u2_n _ _ _ (by omega)) (u2_n _ _ _ (by omega)) fun _ _ _ => rfl⟩
  have := hR.2.2.1 i (by omega)
  rw [u2_n _ _ _ (by omega)]
  exact h5 i hi j hj
theorem CpI.pd {M0 M1 M2 : Mm} {R : Rm} {b k : Nat} {sg : Nat → Int32} (h : CpI M0 M1 R b k 0 sg) (hR : RT R b) (hk : k < 6) (e : ∀ a, a ≠ R (b + 4) k → M2 a = M1 a) (e2 : ∀ j, j < 6 → M2 (R (b + 4) k) j = sg (86 + 6 * k + j)) : CpI M0 M2 R b (k + 1) 0 sg := by
  obtain ⟨h1, h2, h3, h4, h5, h6⟩ := h
  have hp := hR.2.2.1 k hk
  refine ⟨fun a ha => (e a (by omega)).trans (h1 a ha), fun i hi => by rw [e _ (by omega)]; exact h2 i hi, fun i hi => by rw [e _ (by omega)]; exact h3 i hi, fun i hi => by rw [e _ (by omega)]; exact h4 i hi, fun i hi j hj => ?_, fun q hq => absurd hq (by omega)⟩
  by_cases g : i = k
  · subst g
    exact e2 j hj
  · rw [e _ (fun q => g (hR.2.2.2 i k (by omega) hk q))]
    exact h5 i (by omega) j hj
theorem CpI.gg {M0 M1 M2 : Mm} {R : Rm} {b c k g : Nat} {sg : Nat → Int32} (h : CpI M0 M1 R b k g sg) (hR : RT R b) (hk : k ≤ 6) (hg : g < 4) (hc : GkO M1 c g sg) (e : ∀ a, a ≠ b + 12 + 2 * g → a ≠ b + 13 + 2 * g → M2 a = M1 a) (e1 : ∀ j, 1 ≤ j → j < 4 → M2 (b + 12 + 2 * g) j = M1 (c + 12 + 2 * g) j) (e2 : ∀ j, j < 60 → M2 (b + 13 + 2 * g) j = M1 (c + 13 + 2 * g) j) : CpI M0 M2 R b k (g + 1) sg := by
  obtain ⟨h1, h2, h3, h4, h5, h6⟩ := h
  refine ⟨fun a ha => (e a (by omega) (by omega)).trans (h1 a ha), fun i hi => by rw [e _ (by omega) (by omega)]; exact h2 i hi, fun i hi => by rw [e _ (by omega) (by omega)]; exact h3 i hi, fun i hi => by rw [e _ (by omega) (by omega)]; exact h4 i hi, fun i hi j hj => ?_, fun q hq => ?_⟩
  · have := hR.2.2.1 i (by omega)
    rw [e _ (by omega) (by omega)]
    exact h5 i hi j hj
  · by_cases eq : q = g
    · subst eq
      obtain ⟨c1, c2, x, c3, c4, c5⟩ := hc
      exact ⟨(e1 1 (by decide) (by decide)).trans c1, (e1 2 (by decide) (by decide)).trans c2, x, c3, (e1 3 (by decide) (by decide)).trans c4, fun m hm hm2 ago ha => (e2 _ (by omega)).trans (c5 m hm hm2 ago ha)⟩
    · exact (h6 q (by omega)).congr (e _ (by omega) (by omega)) (e _ (by omega) (by omega)) fun _ _ _ => rfl
set_option maxRecDepth 100000 in
set_option maxHeartbeats 4000000 in
theorem s_X4_copyFrom {γ : Gm} {l : Launch} {M : Mm} {R : Rm} {K : KT} {b c np ng : Nat} {sg : Nat → Int32}  (hT : Tb b) (hR : RT R b) (hU : Tb c) (hQ : RT R c) (hbc : b + 20 ≤ c ∨ c + 20 ≤ b) (hk : Tk M R c np ng sg) (ho : Ok0 sg np ng) (hK : ∀ M1, FrM b M M1 → Tk M1 R b np ng sg → K none 247 M1 R) : CL γ l mX4_copyFrom 2 247 247 [.ref b, .ref c] M R K := by
  show WP γ l mX4_copyFrom 2 247 247 0 [some (.ref b), some (.ref c), none] [] 247 M R K
  have h6 := ho.1.2
  have h4 := ho.2.1.2
  have src : ∀ {M1 : Mm}, FrM b M M1 → Tk M1 R c np ng sg := fun h => hk.frame hQ h6 h4 fun a a1 a2 => ⟨h a (by omega), rfl⟩
  have loop2 : ∀ (q g : Nat) (M1 : Mm), q + g = ng → CpI M M1 R b np g sg → M1 b 5 = nI np → M1 b 6 = nI ng → WP γ l mX4_copyFrom 2 247 247 93 [some (.ref b), some (.ref c), some (.int (nI g))] [] 247 M1 R K := by
    intro q
    induction q with
    | zero =>
      intro g M1 hq hI e5 e6
      refine wp_iload_n dX4_copyFrom_93 rfl ?_
      refine wp_aload_n dX4_copyFrom_94 rfl ?_
      refine wp_getJ (v := nI ng) fX4_57 hT.t0.1 rfl (by have := hT.lt; omega) dX4_copyFrom_95 (e6) ?_
      refine wp_icN_ge (a := g) (b := ng) (tgt := 122) dX4_copyFrom_98 (by decide) rfl rfl (by omega) (by omega) (fun h98 => ?_) (fun h98 => absurd h98 (by omega))
      refine wp_aload_n dX4_copyFrom_122 rfl ?_
      refine wp_aload_n dX4_copyFrom_123 rfl ?_
      refine wp_getJ fX4_63 hU.t0.1 rfl (by have := hU.lt; omega) dX4_copyFrom_124 ((src hI.1).cstp) ?_
      refine wp_putI pX4_63 hT.t0.1 rfl ⟨rfl, rfl⟩ (by have := hT.lt; omega) dX4_copyFrom_127 ?_
      exact wp_vret dX4_copyFrom_130 rfl rfl (by
        obtain ⟨i1, i2, i3, i4, i5, i6⟩ := hI.b5 (j := 7) (v := sg 3) hR h6
        exact hK _ i1 ⟨i2, ⟨by rw [u2_s, up_s], by rw [u2_s, up_n _ _ (by decide)]; exact e5.trans ho.1.1.symm, by rw [u2_s, up_n _ _ (by decide)]; exact e6.trans ho.2.1.1.symm⟩, i3, i4, i5, fun p hp => i6 p (by omega)⟩)
    | succ q ih =>
      intro g M1 hq hI e5 e6
      have hg : g < 4 := by omega
      refine wp_iload_n dX4_copyFrom_93 rfl ?_
      refine wp_aload_n dX4_copyFrom_94 rfl ?_
      refine wp_getJ (v := nI ng) fX4_57 hT.t0.1 rfl (by have := hT.lt; omega) dX4_copyFrom_95 (e6) ?_
      refine wp_icN_ge (a := g) (b := ng) (tgt := 122) dX4_copyFrom_98 (by decide) rfl rfl (by omega) (by omega) (fun h98 => absurd h98 (by omega)) (fun h98 => ?_)
      refine wp_aload_n dX4_copyFrom_101 rfl ?_
      refine wp_getQ fX4_37 hT.t0.1 rfl hR.f4 (by omega) (by have := hT.lt; omega) dX4_copyFrom_102 ?_
      refine wp_iload_n dX4_copyFrom_105 rfl ?_
      refine wp_aalq (i := g) rfl (by rw [hT.t5.1]; decide) (by rw [hT.t5.2]; omega) ((hR.2.1 g hg).1) (by omega) (by have := hT.lt; omega) dX4_copyFrom_106 ?_
      refine wp_aload_n dX4_copyFrom_107 rfl ?_
      refine wp_getQ fX4_37 hU.t0.1 rfl hQ.f4 (by omega) (by have := hU.lt; omega) dX4_copyFrom_108 ?_
      refine wp_iload_n dX4_copyFrom_111 rfl ?_
      refine wp_aalq (i := g) rfl (by rw [hU.t5.1]; decide) (by rw [hU.t5.2]; omega) ((hQ.2.1 g hg).1) (by omega) (by have := hU.lt; omega) dX4_copyFrom_112 ?_
      refine wp_cV1 (z := mX0_copyFrom) (n' := 247) kX4_60 dX4_copyFrom_113 (Nat.le_of_ble_eq_true rfl) (Nat.le_of_ble_eq_true rfl) (hT.tg0 hg).1 (by have := hT.lt; omega) (Nat.le_of_ble_eq_true rfl) (Nat.le_refl _) (Nat.le_refl _) (s_X0_copyFrom hT hR hU hQ hg hbc (fun M2 g1 g2 g3 => (wp_af0 ?_)))
      refine wp_iinc (v := nI (g + 1)) (L' := [some (.ref b), some (.ref c), some (.int (nI (g + 1)))]) dX4_copyFrom_116 (by decide) rfl (inc_1 _) rfl ?_
      refine wp_goto (tgt := 93) dX4_copyFrom_119 (by decide) ?_
      exact ih (g + 1) M2 (by omega) (hI.gg hR h6 hg ((src hI.1).cgau (by omega)) g1 g2 g3) (by rw [g1 b (by omega) (by omega)]; exact e5) (by rw [g1 b (by omega) (by omega)]; exact e6)
  have loop1 : ∀ (q k : Nat) (M1 : Mm), q + k = np → CpI M M1 R b k 0 sg → M1 b 5 = nI np → WP γ l mX4_copyFrom 2 247 247 54 [some (.ref b), some (.ref c), some (.int (nI k))] [] 247 M1 R K := by
    intro q
    induction q with
    | zero =>
      intro k M1 hq hI e5
      refine wp_iload_n dX4_copyFrom_54 rfl ?_
      refine wp_aload_n dX4_copyFrom_55 rfl ?_
      refine wp_getJ (v := nI np) fX4_49 hT.t0.1 rfl (by have := hT.lt; omega) dX4_copyFrom_56 (e5) ?_
      refine wp_icN_ge (a := k) (b := np) (tgt := 83) dX4_copyFrom_59 (by decide) rfl rfl (by omega) (by omega) (fun h59 => ?_) (fun h59 => absurd h59 (by omega))
      refine wp_aload_n dX4_copyFrom_83 rfl ?_
      refine wp_aload_n dX4_copyFrom_84 rfl ?_
      refine wp_getJ (v := nI ng) fX4_57 hU.t0.1 rfl (by have := hU.lt; omega) dX4_copyFrom_85 ((src hI.1).cng.trans ho.2.1.1) ?_
      refine wp_putI pX4_57 hT.t0.1 rfl ⟨rfl, rfl⟩ (by have := hT.lt; omega) dX4_copyFrom_88 ?_
      refine wp_iconst (v := 0) dX4_copyFrom_91 (by decide) ?_
      refine wp_istore_n (L' := [some (.ref b), some (.ref c), some (.int _)]) dX4_copyFrom_92 (by decide) rfl ?_
      refine loop2 ng 0 _ rfl (by rw [show k = np by omega] at hI; exact hI.b5 hR h6) (by rw [u2_s, up_n _ _ (by decide)]; exact e5) (by rw [u2_s, up_s])
    | succ q ih =>
      intro k M1 hq hI e5
      have hkn : k < np := by omega
      obtain ⟨pd, hpd⟩ : ∃ pd, pd = R (b + 4) k := ⟨_, rfl⟩
      have hp : b + 6 ≤ pd ∧ pd < b + 12 := by rw [hpd]; exact hR.2.2.1 k (by omega)
      obtain ⟨qd, hqd⟩ : ∃ qd, qd = R (c + 4) k := ⟨_, rfl⟩
      have hq2 : c + 6 ≤ qd ∧ qd < c + 12 := by rw [hqd]; exact hQ.2.2.1 k (by omega)
      have fld : ∀ j, j < 6 → M1 qd j = sg (86 + 6 * k + j) := fun j hj => by rw [hqd]; exact (src hI.1).cpad hkn hj
      obtain ⟨-, -, -, -, -, hz⟩ := ho.2.2.1 k hkn
      refine wp_iload_n dX4_copyFrom_54 rfl ?_
      refine wp_aload_n dX4_copyFrom_55 rfl ?_
      refine wp_getJ (v := nI np) fX4_49 hT.t0.1 rfl (by have := hT.lt; omega) dX4_copyFrom_56 (e5) ?_
      refine wp_icN_ge (a := k) (b := np) (tgt := 83) dX4_copyFrom_59 (by decide) rfl rfl (by omega) (by omega) (fun h59 => absurd h59 (by omega)) (fun h59 => ?_)
      refine wp_aload_n dX4_copyFrom_62 rfl ?_
      refine wp_getQ fX4_31 hT.t0.1 rfl hR.f3 (by omega) (by have := hT.lt; omega) dX4_copyFrom_63 ?_
      refine wp_iload_n dX4_copyFrom_66 rfl ?_
      refine wp_aalq (i := k) rfl (by rw [hT.t4.1]; decide) (by rw [hT.t4.2]; omega) (hpd.symm) (by omega) (by have := hT.lt; omega) dX4_copyFrom_67 ?_
      refine wp_aload_n dX4_copyFrom_68 rfl ?_
      refine wp_getQ fX4_31 hU.t0.1 rfl hQ.f3 (by omega) (by have := hU.lt; omega) dX4_copyFrom_69 ?_
      refine wp_iload_n dX4_copyFrom_72 rfl ?_
      refine wp_aalq (i := k) rfl (by rw [hU.t4.1]; decide) (by rw [hU.t4.2]; omega) (hqd.symm) (by omega) (by have := hU.lt; omega) dX4_copyFrom_73 ?_
      refine wp_cV1 (z := mX3_copyFrom) (n' := 247) kX4_53 dX4_copyFrom_74 (Nat.le_of_ble_eq_true rfl) (Nat.le_of_ble_eq_true rfl) (hT.tp hp.1 hp.2).1 (by have := hT.lt; omega) (Nat.le_of_ble_eq_true rfl) (Nat.le_refl _) (Nat.le_refl _) (s_X3_copyFrom hT hp hU hq2 (by omega) (by rw [fld 5 (by decide)]; exact hz) (fun M2 g1 g2 => (wp_af0 ?_)))
      refine wp_iinc (v := nI (k + 1)) (L' := [some (.ref b), some (.ref c), some (.int (nI (k + 1)))]) dX4_copyFrom_77 (by decide) rfl (inc_1 _) rfl ?_
      refine wp_goto (tgt := 54) dX4_copyFrom_80 (by decide) ?_
      exact ih (k + 1) M2 (by omega) (hI.pd hR (by omega) (by rw [← hpd]; exact g1) (fun j hj => by rw [← hpd, g2 j hj]; exact fld j hj)) (by rw [g1 b (by omega)]; exact e5)
  refine wp_aload_n dX4_copyFrom_0 rfl ?_
  refine wp_getQ fX4_18 hU.t0.1 rfl hQ.f0 (by omega) (by have := hU.lt; omega) dX4_copyFrom_1 ?_
  refine wp_iconst (v := 0) dX4_copyFrom_4 (by decide) ?_
  refine wp_aload_n dX4_copyFrom_5 rfl ?_
  refine wp_getQ fX4_18 hT.t0.1 rfl hR.f0 (by omega) (by have := hT.lt; omega) dX4_copyFrom_6 ?_
  refine wp_iconst (v := 0) dX4_copyFrom_9 (by decide) ?_
  refine wp_iconst (v := 3) dX4_copyFrom_10 (by decide) ?_
  refine wp_copy (a := (c + 1)) (b := (b + 1)) (i := 0) (j := 0) (k := 3) rfl rfl rfl hU.t1.1 hT.t1.1 (by have := hU.lt; omega) (by have := hT.lt; omega) (by rw [hU.t1.2]; decide) (by rw [hT.t1.2]; decide) (by have := hU.lt; omega) (by have := hT.lt; omega) (by decide) (by simp) q204 dX4_copyFrom_11 ?_
  refine wp_aload_n dX4_copyFrom_14 rfl ?_
  refine wp_getQ fX4_23 hU.t0.1 rfl hQ.f1 (by omega) (by have := hU.lt; omega) dX4_copyFrom_15 ?_
  refine wp_iconst (v := 0) dX4_copyFrom_18 (by decide) ?_
  refine wp_aload_n dX4_copyFrom_19 rfl ?_
  refine wp_getQ fX4_23 hT.t0.1 rfl hR.f1 (by omega) (by have := hT.lt; omega) dX4_copyFrom_20 ?_
  refine wp_iconst (v := 0) dX4_copyFrom_23 (by decide) ?_
  refine wp_bipush (v := 40) dX4_copyFrom_24 (by decide) ?_
  refine wp_copy (a := (c + 2)) (b := (b + 2)) (i := 0) (j := 0) (k := 40) rfl rfl rfl hU.t2.1 hT.t2.1 (by have := hU.lt; omega) (by have := hT.lt; omega) (by rw [hU.t2.2]; decide) (by rw [hT.t2.2]; decide) (by have := hU.lt; omega) (by have := hT.lt; omega) (by decide) (by simp) q204 dX4_copyFrom_26 ?_
  refine wp_aload_n dX4_copyFrom_29 rfl ?_
  refine wp_getQ fX4_26 hU.t0.1 rfl hQ.f2 (by omega) (by have := hU.lt; omega) dX4_copyFrom_30 ?_
  refine wp_iconst (v := 0) dX4_copyFrom_33 (by decide) ?_
  refine wp_aload_n dX4_copyFrom_34 rfl ?_
  refine wp_getQ fX4_26 hT.t0.1 rfl hR.f2 (by omega) (by have := hT.lt; omega) dX4_copyFrom_35 ?_
  refine wp_iconst (v := 0) dX4_copyFrom_38 (by decide) ?_
  refine wp_bipush (v := 40) dX4_copyFrom_39 (by decide) ?_
  refine wp_copy (a := (c + 3)) (b := (b + 3)) (i := 0) (j := 0) (k := 40) rfl rfl rfl hU.t3.1 hT.t3.1 (by have := hU.lt; omega) (by have := hT.lt; omega) (by rw [hU.t3.2]; decide) (by rw [hT.t3.2]; decide) (by have := hU.lt; omega) (by have := hT.lt; omega) (by decide) (by simp) q204 dX4_copyFrom_41 ?_
  refine wp_aload_n dX4_copyFrom_44 rfl ?_
  refine wp_aload_n dX4_copyFrom_45 rfl ?_
  refine wp_getJ (v := nI np) fX4_49 hU.t0.1 rfl (by have := hU.lt; omega) dX4_copyFrom_46 ((by rw [up_n _ _ (by omega), up_n _ _ (by omega), up_n _ _ (by omega)]; exact hk.cnp.trans ho.1.1 : _ = nI np)) ?_
  refine wp_putI pX4_49 hT.t0.1 rfl ⟨rfl, rfl⟩ (by have := hT.lt; omega) dX4_copyFrom_49 ?_
  refine wp_iconst (v := 0) dX4_copyFrom_52 (by decide) ?_
  refine wp_istore_n (L' := [some (.ref b), some (.ref c), some (.int _)]) dX4_copyFrom_53 (by decide) rfl ?_
  refine loop1 np 0 _ rfl ?_ (by rw [u2_s, up_s])
  refine CpI.b5 ⟨fun a ha => ?_, fun i hi => ?_, fun i hi => ?_, fun i hi => ?_, fun i hi => absurd hi (by omega), fun q hq => absurd hq (by omega)⟩ hR (by omega)
  · rw [up_n _ _ (by omega), up_n _ _ (by omega), up_n _ _ (by omega)]
  · rw [up_n _ _ (by omega), up_n _ _ (by omega), up_s, va_cpy, if_pos (by omega), ← hk.cset hi]
    simp
  · rw [up_n _ _ (by omega), up_s, va_cpy, if_pos (by omega), ← hk.clev hi, up_n _ _ (by omega)]
    simp
  · rw [up_s, va_cpy, if_pos (by omega), ← hk.cspd hi, up_n _ _ (by omega), up_n _ _ (by omega)]
    simp
