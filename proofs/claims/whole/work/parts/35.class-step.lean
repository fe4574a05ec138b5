/-! THE CLASS: a step -/
/-- outside the tank at b nothing changed -/
def FrM (b : Nat) (M M1 : Mm) : Prop := ∀ a, (a < b ∨ b + 20 ≤ a) → M1 a = M a
theorem FrM.rf (b : Nat) (M : Mm) : FrM b M M := fun _ _ => rfl
theorem FrM.u {b a j : Nat} {M M1 : Mm} {v : Int32} (h : FrM b M M1) (h1 : b ≤ a) (h2 : a < b + 20) : FrM b M (u2 M1 a j v) := fun q hq => by rw [u2_n _ _ _ (by omega)]; exact h q hq
theorem FrM.tr {b : Nat} {M M1 M2 : Mm} (h : FrM b M M1) (h2 : FrM b M1 M2) : FrM b M M2 := fun q hq => (h2 q hq).trans (h q hq)
set_option maxRecDepth 100000 in
set_option maxHeartbeats 4000000 in
theorem s_X4_movePaddles {γ : Gm} {l : Launch} {M : Mm} {R : Rm} {K : KT} {b np ng : Nat} {sg : Nat → Int32}  (hT : Tb b) (hR : RT R b) (hk : Tk M R b np ng sg) (ho : Ok0 sg np ng) (hK : ∀ M1, FrM b M M1 → Tk M1 R b np ng (paN sg np) → K (some (.int (pcN sg np))) 243 M1 R) : CL γ l mX4_movePaddles 2 243 243 [.ref b] M R K := by
  show WP γ l mX4_movePaddles 2 243 243 0 [some (.ref b), none, none, none] [] 243 M R K
  have loop : ∀ (q k : Nat) (st : Int32) (M1 : Mm) (ro : Nat → Int32) (t3 : Option Value), q + k = np → st = pcN sg k → ro = paN sg k → FrM b M M1 → Tk M1 R b np ng ro → WP γ l mX4_movePaddles 2 243 243 4 [some (.ref b), some (.int st), some (.int (nI k)), t3] [] 243 M1 R K := by
    intro q
    induction q with
    | zero =>
      intro k st M1 ro t3 hq hst hro hF hk1
      have ho1 : Ok0 ro np ng := by rw [hro]; exact ho.kpaN k (by omega)
      have h6 := ho.1.2
      refine wp_drop [some (.ref b), some (.int st), some (.int (nI k)), none] (by simp [leL]) ?_
      refine wp_iload_n dX4_movePaddles_4 rfl ?_
      refine wp_aload_n dX4_movePaddles_5 rfl ?_
      refine wp_getJ (v := nI np) fX4_49 hT.t0.1 rfl (by have := hT.lt; omega) dX4_movePaddles_6 (hk1.cnp.trans ho1.1.1) ?_
      refine wp_icN_ge (a := k) (b := np) (tgt := 88) dX4_movePaddles_9 (by decide) rfl rfl (by omega) (by omega) (fun h9 => ?_) (fun h9 => absurd h9 (by omega))
      refine wp_iload_n dX4_movePaddles_88 rfl ?_
      exact wp_iret dX4_movePaddles_89 rfl rfl rfl (by rw [hst, show k = np by omega]; exact hK M1 hF (by rw [show k = np by omega] at hro; rw [← hro]; exact hk1))
    | succ q ih =>
      intro k st M1 ro t3 hq hst hro hF hk1
      have ho1 : Ok0 ro np ng := by rw [hro]; exact ho.kpaN k (by omega)
      have h6 := ho.1.2
      have hkn : k < np := by omega
      obtain ⟨⟨c, hc, hcv⟩, ⟨so, hso, hsv⟩, -, ⟨p, hp1, hp2, hpv⟩, -, hgo⟩ := ho1.2.2.1 k hkn
      obtain ⟨pd, hpd⟩ : ∃ pd, pd = R (b + 4) k := ⟨_, rfl⟩
      have hp : b + 6 ≤ pd ∧ pd < b + 12 := by rw [hpd]; exact hR.2.2.1 k (by omega)
      have fld : ∀ j, j < 6 → M1 pd j = ro (86 + 6 * k + j) := fun j hj => by rw [hpd]; exact hk1.cpad hkn hj
      have ecl : M1 pd 0 = nI c := (fld 0 (by decide)).trans hcv
      have ecel : cel ro k = c := by rw [cel, hcv, nI_clamp (by omega)]
      have epu : pushV (nI so) (ro (86 + 6 * k + 2)) (nI p) (remI (ro 3 + ro (86 + 6 * k + 4)) (nI p)) = pushS ro k := by rw [pushS, hsv, hpv]
      have nxt : ∀ (st1 : Int32) (M2 : Mm) (t4 : Option Value), st1 = st + pc1 ro k → FrM b M M2 → Tk M2 R b np ng (pa1 ro k) → WP γ l mX4_movePaddles 2 243 243 4 [some (.ref b), some (.int st1), some (.int (nI (k + 1))), t4] [] 243 M2 R K := fun st1 M2 t4 e1 e2 e3 => ih (k + 1) st1 M2 _ t4 (by omega) (by rw [e1, hst, hro]; rfl) (by rw [hro]; rfl) e2 e3
      refine wp_drop [some (.ref b), some (.int st), some (.int (nI k)), none] (by simp [leL]) ?_
      rcases hgo with g0 | g1
      · have ego : M1 pd 5 = nI 0 := (fld 5 (by decide)).trans g0
        have ep : pa1 ro k = ro := by rw [pa1, if_neg (by rw [g0]; decide)]
        have ec : pc1 ro k = 0 := by rw [pc1, if_neg (by rw [g0]; decide)]
        refine wp_iload_n dX4_movePaddles_4 rfl ?_
        refine wp_aload_n dX4_movePaddles_5 rfl ?_
        refine wp_getJ (v := nI np) fX4_49 hT.t0.1 rfl (by have := hT.lt; omega) dX4_movePaddles_6 (hk1.cnp.trans ho1.1.1) ?_
        refine wp_icN_ge (a := k) (b := np) (tgt := 88) dX4_movePaddles_9 (by decide) rfl rfl (by omega) (by omega) (fun h9 => absurd h9 (by omega)) (fun h9 => ?_)
        refine wp_aload_n dX4_movePaddles_12 rfl ?_
        refine wp_getQ fX4_31 hT.t0.1 rfl hR.f3 (by omega) (by have := hT.lt; omega) dX4_movePaddles_13 ?_
        refine wp_iload_n dX4_movePaddles_16 rfl ?_
        refine wp_aalq (i := k) rfl (by rw [hT.t4.1]; decide) (by rw [hT.t4.2]; omega) (hpd.symm) (by omega) (by have := hT.lt; omega) dX4_movePaddles_17 ?_
        refine wp_astore_n (L' := [some (.ref b), some (.int st), some (.int (nI k)), some (.ref pd)]) dX4_movePaddles_18 (by decide) rfl ?_
        refine wp_aload_n dX4_movePaddles_19 rfl ?_
        refine wp_getJ (v := nI 0) fX4_102 (hT.tp hp.1 hp.2).1 rfl (by have := hT.lt; omega) dX4_movePaddles_20 (ego) ?_
        refine wp_ifN_eq (a := 0) (tgt := 58) dX4_movePaddles_23 (by decide) rfl (by omega) (fun _ => ?_) (fun h => absurd h (by decide))
        refine wp_aload_n dX4_movePaddles_58 rfl ?_
        refine wp_getJ (v := nI 0) fX4_102 (hT.tp hp.1 hp.2).1 rfl (by have := hT.lt; omega) dX4_movePaddles_59 (ego) ?_
        refine wp_ifN_eq (a := 0) (tgt := 82) dX4_movePaddles_62 (by decide) rfl (by omega) (fun _ => ?_) (fun h => absurd h (by decide))
        refine wp_iinc (v := nI (k + 1)) (L' := [some (.ref b), some (.int st), some (.int (nI (k + 1))), some (.ref pd)]) dX4_movePaddles_82 (by decide) rfl (inc_1 _) rfl ?_
        refine wp_goto (tgt := 4) dX4_movePaddles_85 (by decide) ?_
        exact nxt st M1 _ (by rw [ec, Int32.add_zero]) hF (by rw [ep]; exact hk1)
      · have ego : M1 pd 5 = nI 1 := (fld 5 (by decide)).trans g1
        refine wp_iload_n dX4_movePaddles_4 rfl ?_
        refine wp_aload_n dX4_movePaddles_5 rfl ?_
        refine wp_getJ (v := nI np) fX4_49 hT.t0.1 rfl (by have := hT.lt; omega) dX4_movePaddles_6 (hk1.cnp.trans ho1.1.1) ?_
        refine wp_icN_ge (a := k) (b := np) (tgt := 88) dX4_movePaddles_9 (by decide) rfl rfl (by omega) (by omega) (fun h9 => absurd h9 (by omega)) (fun h9 => ?_)
        refine wp_aload_n dX4_movePaddles_12 rfl ?_
        refine wp_getQ fX4_31 hT.t0.1 rfl hR.f3 (by omega) (by have := hT.lt; omega) dX4_movePaddles_13 ?_
        refine wp_iload_n dX4_movePaddles_16 rfl ?_
        refine wp_aalq (i := k) rfl (by rw [hT.t4.1]; decide) (by rw [hT.t4.2]; omega) (hpd.symm) (by omega) (by have := hT.lt; omega) dX4_movePaddles_17 ?_
        refine wp_astore_n (L' := [some (.ref b), some (.int st), some (.int (nI k)), some (.ref pd)]) dX4_movePaddles_18 (by decide) rfl ?_
        refine wp_aload_n dX4_movePaddles_19 rfl ?_
        refine wp_getJ (v := nI 1) fX4_102 (hT.tp hp.1 hp.2).1 rfl (by have := hT.lt; omega) dX4_movePaddles_20 (ego) ?_
        refine wp_ifN_eq (a := 1) (tgt := 58) dX4_movePaddles_23 (by decide) rfl (by omega) (fun h => absurd h (by decide)) (fun _ => ?_)
        refine wp_aload_n dX4_movePaddles_26 rfl ?_
        refine wp_getQ fX4_23 hT.t0.1 rfl hR.f1 (by omega) (by have := hT.lt; omega) dX4_movePaddles_27 ?_
        refine wp_aload_n dX4_movePaddles_30 rfl ?_
        refine wp_getJ (v := nI c) fX4_87 (hT.tp hp.1 hp.2).1 rfl (by have := hT.lt; omega) dX4_movePaddles_31 (ecl) ?_
        refine wp_iadn (i := c) rfl hT.t2.1 (by have := hT.lt; omega) (by rw [hT.t2.2]; omega) (by have := hT.lt; omega) dX4_movePaddles_34 (hk1.clev (by omega)) ?_
        refine wp_cS1 (z := mJ9_abs_0f7a4) (n' := 243) kX4_132 dX4_movePaddles_35 (Nat.le_of_ble_eq_true rfl) (Nat.le_of_ble_eq_true rfl) (Nat.le_of_ble_eq_true rfl) (Nat.le_refl _) (Nat.le_refl _) (s_J9_abs_0f7a4 (wp_af ?_))
        refine wp_aload_n dX4_movePaddles_38 rfl ?_
        refine wp_getQ fX4_18 hT.t0.1 rfl hR.f0 (by omega) (by have := hT.lt; omega) dX4_movePaddles_39 ?_
        refine wp_iconst (v := 2) dX4_movePaddles_42 (by decide) ?_
        refine wp_iadn (i := 2) rfl hT.t1.1 (by have := hT.lt; omega) (by rw [hT.t1.2]; omega) (by have := hT.lt; omega) dX4_movePaddles_43 (hk1.cset (by decide)) ?_
        refine wp_icmp_le (tgt := 58) dX4_movePaddles_44 (by decide) (fun h44 => ?_) (fun h44 => ?_)
        · have ep : pa1 ro k = up ro (6 + c) (pushS ro k) := by
            rw [pa1, if_pos g1, ecel, if_neg (Int32.not_lt.mpr h44)]
            congr 1
            rw [← g1, up_eta]
          have ec : pc1 ro k = 0 := by rw [pc1, if_pos g1, ecel, if_neg (Int32.not_lt.mpr h44)]
          refine wp_aload_n dX4_movePaddles_58 rfl ?_
          refine wp_getJ (v := nI 1) fX4_102 (hT.tp hp.1 hp.2).1 rfl (by have := hT.lt; omega) dX4_movePaddles_59 (ego) ?_
          refine wp_ifN_eq (a := 1) (tgt := 82) dX4_movePaddles_62 (by decide) rfl (by omega) (fun h => absurd h (by decide)) (fun _ => ?_)
          refine wp_aload_n dX4_movePaddles_65 rfl ?_
          refine wp_getQ fX4_23 hT.t0.1 rfl hR.f1 (by omega) (by have := hT.lt; omega) dX4_movePaddles_66 ?_
          refine wp_aload_n dX4_movePaddles_69 rfl ?_
          refine wp_getJ (v := nI c) fX4_87 (hT.tp hp.1 hp.2).1 rfl (by have := hT.lt; omega) dX4_movePaddles_70 (ecl) ?_
          refine wp_aload_n dX4_movePaddles_73 rfl ?_
          refine wp_aload_n dX4_movePaddles_74 rfl ?_
          refine wp_getJ fX4_63 hT.t0.1 rfl (by have := hT.lt; omega) dX4_movePaddles_75 (hk1.cstp) ?_
          refine wp_cV1 (z := mX3_pushAt) (n' := 243) kX4_137 dX4_movePaddles_78 (Nat.le_of_ble_eq_true rfl) (Nat.le_of_ble_eq_true rfl) (hT.tp hp.1 hp.2).1 (by have := hT.lt; omega) (Nat.le_of_ble_eq_true rfl) (Nat.le_refl _) (Nat.le_refl _) (s_X3_pushAt (st := ro 3) hT hp ((fld 1 (by decide)).trans hsv) hso (fld 2 (by decide)) ((fld 3 (by decide)).trans hpv) hp1 hp2 (fld 4 (by decide)) (wp_af ?_))
          refine wp_top epu ?_
          refine wp_iast (i := c) rfl hT.t2.1 (by have := hT.lt; omega) (by rw [hT.t2.2]; omega) (by have := hT.lt; omega) dX4_movePaddles_81 ?_
          refine wp_iinc (v := nI (k + 1)) (L' := [some (.ref b), some (.int st), some (.int (nI (k + 1))), some (.ref pd)]) dX4_movePaddles_82 (by decide) rfl (inc_1 _) rfl ?_
          refine wp_goto (tgt := 4) dX4_movePaddles_85 (by decide) ?_
          first
            | exact nxt _ _ _ (by rw [ec]; rfl) (hF.u (by omega) (by omega)) (by rw [ep, hpd]; exact hk1.upad hR h6 hkn (by decide) 0)
            | exact nxt st _ _ (by rw [ec, Int32.add_zero]) (hF.u (by omega) (by omega)) (by rw [ep]; exact hk1.ulev hR h6 (by omega) _)
        · have ep : pa1 ro k = up ro (86 + 6 * k + 5) 0 := by rw [pa1, if_pos g1, ecel, if_pos (Int32.not_le.mp h44)]
          have ec : pc1 ro k = 1 := by rw [pc1, if_pos g1, ecel, if_pos (Int32.not_le.mp h44)]
          refine wp_aload_n dX4_movePaddles_47 rfl ?_
          refine wp_iconst (v := 0) dX4_movePaddles_48 (by decide) ?_
          refine wp_putI pX4_102 (hT.tp hp.1 hp.2).1 rfl ⟨rfl, rfl⟩ (by have := hT.lt; omega) dX4_movePaddles_49 ?_
          refine wp_iinc (v := _) (L' := [some (.ref b), some (.int _), some (.int (nI k)), some (.ref pd)]) dX4_movePaddles_52 (by decide) rfl rfl rfl ?_
          refine wp_goto (tgt := 82) dX4_movePaddles_55 (by decide) ?_
          refine wp_iinc (v := nI (k + 1)) (L' := [some (.ref b), some (.int _), some (.int (nI (k + 1))), some (.ref pd)]) dX4_movePaddles_82 (by decide) rfl (inc_1 _) rfl ?_
          refine wp_goto (tgt := 4) dX4_movePaddles_85 (by decide) ?_
          first
            | exact nxt _ _ _ (by rw [ec]; rfl) (hF.u (by omega) (by omega)) (by rw [ep, hpd]; exact hk1.upad hR h6 hkn (by decide) 0)
            | exact nxt st _ _ (by rw [ec, Int32.add_zero]) (hF.u (by omega) (by omega)) (by rw [ep]; exact hk1.ulev hR h6 (by omega) _)
  refine wp_iconst (v := 0) dX4_movePaddles_0 (by decide) ?_
  refine wp_istore_n (L' := [some (.ref b), some (.int _), none, none]) dX4_movePaddles_1 (by decide) rfl ?_
  refine wp_iconst (v := 0) dX4_movePaddles_2 (by decide) ?_
  refine wp_istore_n (L' := [some (.ref b), some (.int _), some (.int _), none]) dX4_movePaddles_3 (by decide) rfl ?_
  exact loop np 0 0 M sg _ rfl rfl rfl (FrM.rf b M) hk

