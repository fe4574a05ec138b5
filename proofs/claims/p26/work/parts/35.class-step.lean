/-! THE CLASS: a step -/
/-- outside the tank at b nothing changed -/
def FrM (b : Nat) (M M1 : Mm) : Prop := ∀ a, (a < b ∨ b + 20 ≤ a) → M1 a = M a
theorem FrM.rf (b : Nat) (M : Mm) : FrM b M M := fun _ _ => rfl
theorem FrM.u {b a j : Nat} {M M1 : Mm} {v : Int32} (h : FrM b M M1) (h1 : b ≤ a) (h2 : a < b + 20) : FrM b M (u2 M1 a j v) := fun q hq => by rw [u2_n _ _ _ (by omega)]; exact h q hq
theorem FrM.tr {b : Nat} {M M1 M2 : Mm} (h : FrM b M M1) (h2 : FrM b M1 M2) : FrM b M M2 := fun q hq => (h2 q hq).trans (h q hq)
set_option maxRecDepth 100000 in
set_option maxHeartbeats 4000000 in
theorem s_X4_movePaddles {γ : Gm} {l : Launch} {M : Mm} {R : Rm} {K : KT} {b np ng : Nat} {sg : Nat → Int32}  (hT : Tb b) (hR : RT R b) (hk : Tk M R b np ng sg) (ho : Ok0 sg np ng) (hK : ∀ M1, FrM b M M1 → Tk M1 R b np ng (paN sg np) → K (some (.int (pcN sg np))) 247 M1 R) : CL γ l mX4_movePaddles 2 247 247 [.ref b] M R K := by
  show WP γ l mX4_movePaddles 2 247 247 0 [some (.ref b), none, none, none] [] 247 M R K
  have loop : ∀ (q k : Nat) (st : Int32) (M1 : Mm) (ro : Nat → Int32) (t3 : Option Value), q + k = np → st = pcN sg k → ro = paN sg k → FrM b M M1 → Tk M1 R b np ng ro → WP γ l mX4_movePaddles 2 247 247 4 [some (.ref b), some (.int st), some (.int (nI k)), t3] [] 247 M1 R K := by
    intro q
    induction q with
    | zero =>
      intro k st M1 ro t3 hq hst hro hF hk1
      have ho1 : Ok0 ro np ng := by rw [hro]; exact ho.kpaN k (by omega)
      have h6 := ho.1.2
      refine wp_drop [some (.ref b), some (.int st), some (.int (nI k)), none] (by simp [leL]) ?_
      refine wp_iload_n dX4_movePaddles_4 rfl ?_
      refine wp_aload_n dX4_movePaddles_5 rfl ?_
      refine wp_getJ (v := nI np) fX4_49 hT.t0.1 rfl (by have := hT.lt; omega) dX4_movePaddles_6 (hk1.cnp.trans ho1.1.1) ?_
      refine wp_icN_ge (a := k) (b := np) (tgt := 88) dX4_movePaddles_9 (by decide) rfl rfl (by omega) (by omega) (fun h9 => ?_) (fun h9 => absurd h9 (by omega))
      refine wp_iload_n dX4_movePaddles_88 rfl ?_
      exact wp_iret dX4_movePaddles_89 rfl rfl rfl (by rw [hst, show k = np by omega]; exact hK M1 hF (by rw [show k = np by omega] at hro; rw [← hro]; exact hk1))
    | succ q ih =>
      intro k st M1 ro t3 hq hst hro hF hk1
      have ho1 : Ok0 ro np ng := by rw [hro]; exact ho.kpaN k (by omega)
      have h6 := ho.1.2
      have hkn : k < np := by omega
      obtain ⟨⟨c, hc, hcv⟩, ⟨so, hso, hsv⟩, -, ⟨p, hp1, hp2, hpv⟩, -, hgo⟩ := ho1.2.2.1 k hkn
      obtain ⟨pd, hpd⟩ : ∃ pd, pd = R (b + 4) k := ⟨_, rfl⟩
      have hp : b + 6 ≤ pd ∧ pd < b + 12 := by rw [hpd]; exact hR.2.2.1 k (by omega)
      have fld : ∀ j, j < 6 → M1 pd j = ro (86 + 6 * k + j) := fun j hj => by rw [hpd]; exact hk1.cpad hkn hj
      have ecl : M1 pd 0 = nI c := (fld 0 (by decide)).trans hcv
      have ecel : cel ro k = c := by rw [cel, hcv, nI_clamp (by omega)]
      have epu : pushV (nI so) (ro (86 + 6 * k + 2)) (nI p) (remI (ro 3 + ro (86 + 6 * k + 4)) (nI p)) = pushS ro k := by rw [pushS, hsv, hpv]
      have nxt : ∀ (st1 : Int32) (M2 : Mm) (t4 : Option Value), st1 = st + pc1 ro k → FrM b M M2 → Tk M2 R b np ng (pa1 ro k) → WP γ l mX4_movePaddles 2 247 247 4 [some (.ref b), some (.int st1), some (.int (nI (k + 1))), t4] [] 247 M2 R K := fun st1 M2 t4 e1 e2 e3 => ih (k + 1) st1 M2 _ t4 (by omega) (by rw [e1, hst, hro]; rfl) (by rw [hro]; rfl) e2 e3
      refine wp_drop [some (.ref b), some (.int st), some (.int (nI k)), none] (by simp [leL]) ?_
      rcases hgo with g0 | g1
      · have ego : M1 pd 5 = nI 0 := (fld 5 (by decide)).trans g0
        have ep : pa1 ro k = ro := by rw [pa1, if_neg (by rw [g0]; decide)]
        have ec : pc1 ro k = 0 := by rw [pc1, if_neg (by rw [g0]; decide)]
        refine wp_iload_n dX4_movePaddles_4 rfl ?_
        refine wp_aload_n dX4_movePaddles_5 rfl ?_
        refine wp_getJ (v := nI np) fX4_49 hT.t0.1 rfl (by have := hT.lt; omega) dX4_movePaddles_6 (hk1.cnp.trans ho1.1.1) ?_
        refine wp_icN_ge (a := k) (b := np) (tgt := 88) dX4_movePaddles_9 (by decide) rfl rfl (by omega) (by omega) (fun h9 => absurd h9 (by omega)) (fun h9 => ?_)
        refine wp_aload_n dX4_movePaddles_12 rfl ?_
        refine wp_getQ fX4_31 hT.t0.1 rfl hR.f3 (by omega) (by have := hT.lt; omega) dX4_movePaddles_13 ?_
        refine wp_iload_n dX4_movePaddles_16 rfl ?_
        refine wp_aalq (i := k) rfl (by rw [hT.t4.1]; decide) (by rw [hT.t4.2]; omega) (hpd.symm) (by omega) (by have := hT.lt; omega) dX4_movePaddles_17 ?_
        refine wp_astore_n (L' := [some (.ref b), some (.int st), some (.int (nI k)), some (.ref pd)]) dX4_movePaddles_18 (by decide) rfl ?_
        refine wp_aload_n dX4_movePaddles_19 rfl ?_
        refine wp_getJ (v := nI 0) fX4_102 (hT.tp hp.1 hp.2).1 rfl (by have := hT.lt; omega) dX4_movePaddles_20 (ego) ?_
        refine wp_ifN_eq (a := 0) (tgt := 58) dX4_movePaddles_23 (by decide) rfl (by omega) (fun _ => ?_) (fun h => absurd h (by decide))
        refine wp_aload_n dX4_movePaddles_58 rfl ?_
        refine wp_getJ (v := nI 0) fX4_102 (hT.tp hp.1 hp.2).1 rfl (by have := hT.lt; omega) dX4_movePaddles_59 (ego) ?_
        refine wp_ifN_eq (a := 0) (tgt := 82) dX4_movePaddles_62 (by decide) rfl (by omega) (fun _ => ?_) (fun h => absurd h (by decide))
        refine wp_iinc (v := nI (k + 1)) (L' := [some (.ref b), some (.int st), some (.int (nI (k + 1))), some (.ref pd)]) dX4_movePaddles_82 (by decide) rfl (inc_1 _) rfl ?_
        refine wp_goto (tgt := 4) dX4_movePaddles_85 (by decide) ?_
        exact nxt st M1 _ (by rw [ec, Int32.add_zero]) hF (by rw [ep]; exact hk1)
      · have ego : M1 pd 5 = nI 1 := (fld 5 (by decide)).trans g1
        refine wp_iload_n dX4_movePaddles_4 rfl ?_
        refine wp_aload_n dX4_movePaddles_5 rfl ?_
        refine wp_getJ (v := nI np) fX4_49 hT.t0.1 rfl (by have := hT.lt; omega) dX4_movePaddles_6 (hk1.cnp.trans ho1.1.1) ?_
        refine wp_icN_ge (a := k) (b := np) (tgt := 88) dX4_movePaddles_9 (by decide) rfl rfl (by omega) (by omega) (fun h9 => absurd h9 (by omega)) (fun h9 => ?_)
        refine wp_aload_n dX4_movePaddles_12 rfl ?_
        refine wp_getQ fX4_31 hT.t0.1 rfl hR.f3 (by omega) (by have := hT.lt; omega) dX4_movePaddles_13 ?_
        refine wp_iload_n dX4_movePaddles_16 rfl ?_
        refine wp_aalq (i := k) rfl (by rw [hT.t4.1]; decide) (by rw [hT.t4.2]; omega) (hpd.symm) (by omega) (by have := hT.lt; omega) dX4_movePaddles_17 ?_
        refine wp_astore_n (L' := [some (.ref b), some (.int st), some (.int (nI k)), some (.ref pd)]) dX4_movePaddles_18 (by decide) rfl ?_
        refine wp_aload_n dX4_movePaddles_19 rfl ?_
        refine wp_getJ (v := nI 1) fX4_102 (hT.tp hp.1 hp.2).1 rfl (by have := hT.lt; omega) dX4_movePaddles_20 (ego) ?_
        refine wp_ifN_eq (a := 1) (tgt := 58) dX4_movePaddles_23 (by decide) rfl (by omega) (fun h => absurd h (by decide)) (fun _ => ?_)
        refine wp_aload_n dX4_movePaddles_26 rfl ?_
        refine wp_getQ fX4_23 hT.t0.1 rfl hR.f1 (by omega) (by have := hT.lt; omega) dX4_movePaddles_27 ?_
        refine wp_aload_n dX4_movePaddles_30 rfl ?_
        refine wp_getJ (v := nI c) fX4_87 (hT.tp hp.1 hp.2).1 rfl (by have := hT.lt; omega) dX4_movePaddles_31 (ecl) ?_
        refine wp_iadn (i := c) rfl hT.t2.1 (by have := hT.lt; omega) (by rw [hT.t2.2]; omega) (by have := hT.lt; omega) dX4_movePaddles_34 (hk1.clev (by omega)) ?_
        refine wp_cS1 (z := mJ9_abs_0f7a4) (n' := 247) kX4_132 dX4_movePaddles_35 (Nat.le_of_ble_eq_true rfl) (Nat.le_of_ble_eq_true rfl) (Nat.le_of_ble_eq_true rfl) (Nat.le_refl _) (Nat.le_refl _) (s_J9_abs_0f7a4 (wp_af ?_))
        refine wp_aload_n dX4_movePaddles_38 rfl ?_
        refine wp_getQ fX4_18 hT.t0.1 rfl hR.f0 (by omega) (by have := hT.lt; omega) dX4_movePaddles_39 ?_
        refine wp_iconst (v := 2) dX4_movePaddles_42 (by decide) ?_
        refine wp_iadn (i := 2) rfl hT.t1.1 (by have := hT.lt; omega) (by rw [hT.t1.2]; omega) (by have := hT.lt; omega) dX4_movePaddles_43 (hk1.cset (by decide)) ?_
        refine wp_icmp_le (tgt := 58) dX4_movePaddles_44 (by decide) (fun h44 => ?_) (fun h44 => ?_)
        · have ep : pa1 ro k = up ro (6 + c) (pushS ro k) := by
            rw [pa1, if_pos g1, ecel, if_neg (Int32.not_lt.mpr h44)]
            congr 1
            rw [← g1, up_eta]
          have ec : pc1 ro k = 0 := by rw [pc1, if_pos g1, ecel, if_neg (Int32.not_lt.mpr h44)]
          refine wp_aload_n dX4_movePaddles_58 rfl ?_
          refine wp_getJ (v := nI 1) fX4_102 (hT.tp hp.1 hp.2).1 rfl (by have := hT.lt; omega) dX4_movePaddles_59 (ego) ?_
          refine wp_ifN_eq (a := 1) (tgt := 82) dX4_movePaddles_62 (by decide) rfl (by omega) (fun h => absurd h (by decide)) (fun _ => ?_)
          refine wp_aload_n dX4_movePaddles_65 rfl ?_
          refine wp_getQ fX4_23 hT.t0.1 rfl hR.f1 (by omega) (by have := hT.lt; omega) dX4_movePaddles_66 ?_
          refine wp_aload_n dX4_movePaddles_69 rfl ?_
          refine wp_getJ (v := nI c) fX4_87 (hT.tp hp.1 hp.2).1 rfl (by have := hT.lt; omega) dX4_movePaddles_70 (ecl) ?_
          refine wp_aload_n dX4_movePaddles_73 rfl ?_
          refine wp_aload_n dX4_movePaddles_74 rfl ?_
          refine wp_getJ fX4_63 hT.t0.1 rfl (by have := hT.lt; omega) dX4_movePaddles_75 (hk1.cstp) ?_
          refine wp_cV1 (z := mX3_pushAt) (n' := 247) kX4_137 dX4_movePaddles_78 (Nat.le_of_ble_eq_true rfl) (Nat.le_of_ble_eq_true rfl) (hT.tp hp.1 hp.2).1 (by have := hT.lt; omega) (Nat.le_of_ble_eq_true rfl) (Nat.le_refl _) (Nat.le_refl _) (s_X3_pushAt (st := ro 3) hT hp ((fld 1 (by decide)).trans hsv) hso (fld 2 (by decide)) ((fld 3 (by decide)).trans hpv) hp1 hp2 (fld 4 (by decide)) (wp_af ?_))
          refine wp_top epu ?_
          refine wp_iast (i := c) rfl hT.t2.1 (by have := hT.lt; omega) (by rw [hT.t2.2]; omega) (by have := hT.lt; omega) dX4_movePaddles_81 ?_
          refine wp_iinc (v := nI (k + 1)) (L' := [some (.ref b), some (.int st), some (.int (nI (k + 1))), some (.ref pd)]) dX4_movePaddles_82 (by decide) rfl (inc_1 _) rfl ?_
          refine wp_goto (tgt := 4) dX4_movePaddles_85 (by decide) ?_
          first
            | exact nxt _ _ _ (by rw [ec]; rfl) (hF.u (by omega) (by omega)) (by rw [ep, hpd]; exact hk1.upad hR h6 hkn (by decide) 0)
            | exact nxt st _ _ (by rw [ec, Int32.add_zero]) (hF.u (by omega) (by omega)) (by rw [ep]; exact hk1.ulev hR h6 (by omega) _)
        · have ep : pa1 ro k = up ro (86 + 6 * k + 5) 0 := by rw [pa1, if_pos g1, ecel, if_pos (Int32.not_le.mp h44)]
          have ec : pc1 ro k = 1 := by rw [pc1, if_pos g1, ecel, if_pos (Int32.not_le.mp h44)]
          refine wp_aload_n dX4_movePaddles_47 rfl ?_
          refine wp_iconst (v := 0) dX4_movePaddles_48 (by decide) ?_
          refine wp_putI pX4_102 (hT.tp hp.1 hp.2).1 rfl ⟨rfl, rfl⟩ (by have := hT.lt; omega) dX4_movePaddles_49 ?_
          refine wp_iinc (v := _) (L' := [some (.ref b), some (.int _), some (.int (nI k)), some (.ref pd)]) dX4_movePaddles_52 (by decide) rfl rfl rfl ?_
          refine wp_goto (tgt := 82) dX4_movePaddles_55 (by decide) ?_
          refine wp_iinc (v := nI (k + 1)) (L' := [some (.ref b), some (.int _), some (.int (nI (k + 1))), some (.ref pd)]) dX4_movePaddles_82 (by decide) rfl (inc_1 _) rfl ?_
          refine wp_goto (tgt := 4) dX4_movePaddles_85 (by decide) ?_
          first
            | exact nxt _ _ _ (by rw [ec]; rfl) (hF.u (by omega) (by omega)) (by rw [ep, hpd]; exact hk1.upad hR h6 hkn (by decide) 0)
            | exact nxt st _ _ (by rw [ec, Int32.add_zero]) (hF.u (by omega) (by omega)) (by rw [ep]; exact hk1.ulev hR h6 (by omega) _)
  refine wp_iconst (v := 0) dX4_movePaddles_0 (by decide) ?_
  refine wp_istore_n (L' := [some (.ref b), some (.int _), none, none]) dX4_movePaddles_1 (by decide) rfl ?_
  refine wp_iconst (v := 0) dX4_movePaddles_2 (by decide) ?_
  refine wp_istore_n (L' := [some (.ref b), some (.int _), some (.int _), none]) dX4_movePaddles_3 (by decide) rfl ?_
  exact loop np 0 0 M sg _ rfl rfl rfl (FrM.rf b M) hk

theorem Tk.waters {M M1 : Mm} {R : Rm} {b np ng : Nat} {sg ro : Nat → Int32} (h : Tk M R b np ng sg) (hR : RT R b) (h6 : np ≤ 6) (e : ∀ a, a ≠ b + 2 → a ≠ b + 3 → M1 a = M a) (e1 : ∀ j, j < 40 → M1 (b + 2) j = ro (6 + j)) (e2 : ∀ j, j < 40 → M1 (b + 3) j = ro (46 + j)) (e3 : ∀ j, j < 6 ∨ 86 ≤ j → ro j = sg j) : Tk M1 R b np ng ro := by
  obtain ⟨h1, ⟨h2, h3, h7⟩, h8, h9, h10, h11⟩ := h
  refine ⟨fun i hi => by rw [e _ (by omega) (by omega), e3 _ (by omega)]; exact h1 i hi, ⟨by rw [e _ (by omega) (by omega), e3 _ (by omega)]; exact h2, by rw [e _ (by omega) (by omega), e3 _ (by omega)]; exact h3, by rw [e _ (by omega) (by omega), e3 _ (by omega)]; exact h7⟩, e1, e2, fun k hk j hj => ?_, fun g hg => (h11 g hg).congr (e _ (by omega) (by omega)) (e _ (by omega) (by omega)) fun j _ _ => e3 _ (by omega)⟩
  have := hR.2.2.1 k (by omega)
  rw [e _ (by omega) (by omega), e3 _ (by omega)]
  exact h10 k hk j hj
theorem swB_lv {sg : Nat → Int32} {j : Nat} (h : j < 40) : swB sg 40 (6 + j) = bnd (sg (6 + j) + spdV sg j) := by rw [swB, if_pos (by omega), Nat.add_sub_cancel_left]
theorem swB_sp {sg : Nat → Int32} {j : Nat} (h : j < 40) : swB sg 40 (46 + j) = spdV sg j := by rw [swB, if_neg (by omega), swA, if_pos (by omega), Nat.add_sub_cancel_left]
theorem bcN_lv {sg : Nat → Int32} {j : Nat} (h : 36 ≤ j) (h2 : j < 40) : bcN sg 40 (6 + j) = bcV sg j (6 + j) := by rw [bcN, if_pos (by omega), Nat.add_sub_cancel_left]
theorem bcN_sp {sg : Nat → Int32} {j : Nat} (h : 36 ≤ j) (h2 : j < 40) : bcN sg 40 (46 + j) = bcV sg j (46 + j) := by rw [bcN, if_neg (by omega), if_pos (by omega), Nat.add_sub_cancel_left]
theorem bcN_l0 {sg : Nat → Int32} {j : Nat} (h : j < 36) : bcN sg 40 (6 + j) = sg (6 + j) := by rw [bcN, if_neg (by omega), if_neg (by omega)]
theorem bcN_s0 {sg : Nat → Int32} {j : Nat} (h : j < 36) : bcN sg 40 (46 + j) = sg (46 + j) := by rw [bcN, if_neg (by omega), if_neg (by omega)]
/-- cells below c of a tank have their new numbers ro, the others the old ones -/
def WtI (M M1 : Mm) (b : Nat) (sg ro : Nat → Int32) (c : Nat) : Prop := (∀ a, a ≠ b + 2 → a ≠ b + 3 → M1 a = M a) ∧ (∀ j, j < 40 → M1 (b + 2) j = if j < c then ro (6 + j) else sg (6 + j)) ∧ ∀ j, j < 40 → M1 (b + 3) j = if j < c then ro (46 + j) else sg (46 + j)
theorem WtI.next {M M1 M2 : Mm} {b c : Nat} {sg ro : Nat → Int32} (h : WtI M M1 b sg ro c) (e1 : M2 (b + 2) = up (M1 (b + 2)) c (ro (6 + c))) (e2 : M2 (b + 3) = up (M1 (b + 3)) c (ro (46 + c))) (e3 : ∀ a, a ≠ b + 2 → a ≠ b + 3 → M2 a = M1 a) : WtI M M2 b sg ro (c + 1) := by
  obtain ⟨h1, h2, h3⟩ := h
  refine ⟨fun a a1 a2 => (e3 a a1 a2).trans (h1 a a1 a2), fun j hj => ?_, fun j hj => ?_⟩
  · rw [e1]
    by_cases e : j = c
    · rw [e, up_s, if_pos (by omega)]
    · rw [up_n _ _ e, h2 j hj]
      by_cases e2 : j < c
      · rw [if_pos e2, if_pos (by omega)]
      · rw [if_neg e2, if_neg (by omega)]
  · rw [e2]
    by_cases e : j = c
    · rw [e, up_s, if_pos (by omega)]
    · rw [up_n _ _ e, h3 j hj]
      by_cases e2 : j < c
      · rw [if_pos e2, if_pos (by omega)]
      · rw [if_neg e2, if_neg (by omega)]
theorem WtI.fr {M M1 : Mm} {b c : Nat} {sg ro : Nat → Int32} (h : WtI M M1 b sg ro c) : FrM b M M1 := fun a ha => h.1 a (by omega) (by omega)
set_option maxRecDepth 100000 in
set_option maxHeartbeats 4000000 in
theorem s_X4_moveWater {γ : Gm} {l : Launch} {M : Mm} {R : Rm} {K : KT} {b np ng : Nat} {sg : Nat → Int32}  (hT : Tb b) (hR : RT R b) (hk : Tk M R b np ng sg) (ho : Ok0 sg np ng) (hK : ∀ M1, FrM b M M1 → Tk M1 R b np ng (swB sg 40) → K none 247 M1 R) : CL γ l mX4_moveWater 2 247 247 [.ref b] M R K := by
  show WP γ l mX4_moveWater 2 247 247 0 [some (.ref b), none, none, none, none, none] [] 247 M R K
  have loop : ∀ (q c : Nat) (lf : Int32) (M1 : Mm) (t3 t4 t5 : Option Value), q + c = 40 → lf = sg (6 + (if c = 0 then c else c - 1)) → WtI M M1 b sg (swB sg 40) c → WP γ l mX4_moveWater 2 247 247 9 [some (.ref b), some (.int lf), some (.int (nI c)), t3, t4, t5] [] 247 M1 R K := by
    intro q
    induction q with
    | zero =>
      intro c lf M1 t3 t4 t5 hq hlf hI
      refine wp_drop [some (.ref b), some (.int lf), some (.int (nI c)), none, none, none] (by simp [leL]) ?_
      refine wp_iload_n dX4_moveWater_9 rfl ?_
      refine wp_bipush (v := 40) dX4_moveWater_10 (by decide) ?_
      refine wp_icN_ge (a := c) (b := 40) (tgt := 112) dX4_moveWater_12 (by decide) rfl rfl (by omega) (by omega) (fun h12 => ?_) (fun h12 => absurd h12 (by omega))
      exact wp_vret dX4_moveWater_112 rfl rfl (hK M1 hI.fr (hk.waters hR ho.1.2 hI.1 (fun j hj => (hI.2.1 j hj).trans (if_pos (by omega))) (fun j hj => (hI.2.2 j hj).trans (if_pos (by omega))) fun j hj => swB_same hj))
    | succ q ih =>
      intro c lf M1 t3 t4 t5 hq hlf hI
      refine wp_drop [some (.ref b), some (.int lf), some (.int (nI c)), none, none, none] (by simp [leL]) ?_
      refine wp_iload_n dX4_moveWater_9 rfl ?_
      refine wp_bipush (v := 40) dX4_moveWater_10 (by decide) ?_
      refine wp_icN_ge (a := c) (b := 40) (tgt := 112) dX4_moveWater_12 (by decide) rfl rfl (by omega) (by omega) (fun h12 => absurd h12 (by omega)) (fun h12 => ?_)
      refine wp_aload_n dX4_moveWater_15 rfl ?_
      refine wp_getQ fX4_23 hT.t0.1 rfl hR.f1 (by omega) (by have := hT.lt; omega) dX4_moveWater_16 ?_
      refine wp_iload_n dX4_moveWater_19 rfl ?_
      refine wp_iadn (i := c) rfl hT.t2.1 (by have := hT.lt; omega) (by rw [hT.t2.2]; omega) (by have := hT.lt; omega) dX4_moveWater_20 ((hI.2.1 c (by omega)).trans (if_neg (by omega))) ?_
      refine wp_istore_n (L' := [some (.ref b), some (.int lf), some (.int (nI c)), some (.int (sg (6 + c))), none, none]) dX4_moveWater_21 (by decide) rfl ?_
      refine wp_iload_n dX4_moveWater_22 rfl ?_
      refine wp_iconst (v := 1) dX4_moveWater_23 (by decide) ?_
      refine wp_iadd dX4_moveWater_24 ?_
      refine wp_bipush (v := 40) dX4_moveWater_25 (by decide) ?_
      refine wp_icN_ge (a := (c + 1)) (b := 40) (tgt := 41) dX4_moveWater_27 (by decide) (ix_add rfl rfl) rfl (by omega) (by omega) (fun h27 => ?_) (fun h27 => ?_)
      · have e39 : c = 39 := by omega
        refine wp_iload_n dX4_moveWater_41 rfl ?_
        refine wp_istore (L' := [some (.ref b), some (.int lf), some (.int (nI c)), some (.int (sg (6 + c))), some (.int (sg (6 + c))), none]) dX4_moveWater_42 (by decide) rfl ?_
        refine wp_aload_n dX4_moveWater_44 rfl ?_
        refine wp_getQ fX4_26 hT.t0.1 rfl hR.f2 (by omega) (by have := hT.lt; omega) dX4_moveWater_45 ?_
        refine wp_iload_n dX4_moveWater_48 rfl ?_
        refine wp_iadn (i := c) rfl hT.t3.1 (by have := hT.lt; omega) (by rw [hT.t3.2]; omega) (by have := hT.lt; omega) dX4_moveWater_49 ((hI.2.2 c (by omega)).trans (if_neg (by omega))) ?_
        refine wp_iload_n dX4_moveWater_50 rfl ?_
        refine wp_iload dX4_moveWater_51 rfl ?_
        refine wp_iadd dX4_moveWater_53 ?_
        refine wp_iconst (v := 2) dX4_moveWater_54 (by decide) ?_
        refine wp_iload_n dX4_moveWater_55 rfl ?_
        refine wp_imul dX4_moveWater_56 ?_
        refine wp_isub dX4_moveWater_57 ?_
        refine wp_iconst (v := 4) dX4_moveWater_58 (by decide) ?_
        refine wp_idiv dX4_moveWater_59 (by decide) ?_
        refine wp_iadd dX4_moveWater_60 ?_
        refine wp_cT1 (z := mX5_withinBounds) (n' := 247) kX4_140 dX4_moveWater_61 (Nat.le_of_ble_eq_true rfl) (Nat.le_of_ble_eq_true rfl) (Nat.le_of_ble_eq_true rfl) (Nat.le_refl _) (Nat.le_refl _) (s_X5_withinBounds (wp_af ?_))
        refine wp_istore (L' := [some (.ref b), some (.int lf), some (.int (nI c)), some (.int (sg (6 + c))), some (.int (sg (6 + c))), some (.int _)]) dX4_moveWater_64 (by decide) rfl ?_
        refine wp_iload dX4_moveWater_66 rfl ?_
        refine wp_iload dX4_moveWater_68 rfl ?_
        refine wp_aload_n dX4_moveWater_70 rfl ?_
        refine wp_getQ fX4_18 hT.t0.1 rfl hR.f0 (by omega) (by have := hT.lt; omega) dX4_moveWater_71 ?_
        refine wp_iconst (v := 1) dX4_moveWater_74 (by decide) ?_
        refine wp_iadn (i := 1) rfl hT.t1.1 (by have := hT.lt; omega) (by rw [hT.t1.2]; omega) (by have := hT.lt; omega) dX4_moveWater_75 ((congrFun (hI.1 (b + 1) (by omega) (by omega)) 1).trans (hk.cset (by decide))) ?_
        refine wp_imul dX4_moveWater_76 ?_
        refine wp_bipush (v := 100) dX4_moveWater_77 (by decide) ?_
        refine wp_idiv dX4_moveWater_79 (by decide) ?_
        refine wp_isub dX4_moveWater_80 ?_
        refine wp_top (z := spdV sg c) (by rw [spdV, hlf]; first | rw [if_pos e39] | rw [if_neg e39]) ?_
        refine wp_istore (L' := [some (.ref b), some (.int lf), some (.int (nI c)), some (.int (sg (6 + c))), some (.int (sg (6 + c))), some (.int (spdV sg c))]) dX4_moveWater_81 (by decide) rfl ?_
        refine wp_aload_n dX4_moveWater_83 rfl ?_
        refine wp_getQ fX4_26 hT.t0.1 rfl hR.f2 (by omega) (by have := hT.lt; omega) dX4_moveWater_84 ?_
        refine wp_iload_n dX4_moveWater_87 rfl ?_
        refine wp_iload dX4_moveWater_88 rfl ?_
        refine wp_iast (i := c) rfl hT.t3.1 (by have := hT.lt; omega) (by rw [hT.t3.2]; omega) (by have := hT.lt; omega) dX4_moveWater_90 ?_
        refine wp_aload_n dX4_moveWater_91 rfl ?_
        refine wp_getQ fX4_23 hT.t0.1 rfl hR.f1 (by omega) (by have := hT.lt; omega) dX4_moveWater_92 ?_
        refine wp_iload_n dX4_moveWater_95 rfl ?_
        refine wp_iload_n dX4_moveWater_96 rfl ?_
        refine wp_iload dX4_moveWater_97 rfl ?_
        refine wp_iadd dX4_moveWater_99 ?_
        refine wp_cT1 (z := mX5_withinBounds) (n' := 247) kX4_140 dX4_moveWater_100 (Nat.le_of_ble_eq_true rfl) (Nat.le_of_ble_eq_true rfl) (Nat.le_of_ble_eq_true rfl) (Nat.le_refl _) (Nat.le_refl _) (s_X5_withinBounds (wp_af ?_))
        refine wp_iast (i := c) rfl hT.t2.1 (by have := hT.lt; omega) (by rw [hT.t2.2]; omega) (by have := hT.lt; omega) dX4_moveWater_103 ?_
        refine wp_iload_n dX4_moveWater_104 rfl ?_
        refine wp_istore_n (L' := [some (.ref b), some (.int (sg (6 + c))), some (.int (nI c)), some (.int (sg (6 + c))), some (.int (sg (6 + c))), some (.int (spdV sg c))]) dX4_moveWater_105 (by decide) rfl ?_
        refine wp_iinc (v := nI (c + 1)) (L' := [some (.ref b), some (.int (sg (6 + c))), some (.int (nI (c + 1))), some (.int (sg (6 + c))), some (.int (sg (6 + c))), some (.int (spdV sg c))]) dX4_moveWater_106 (by decide) rfl (inc_1 _) rfl ?_
        refine wp_goto (tgt := 9) dX4_moveWater_109 (by decide) ?_
        exact ih (c + 1) _ _ _ _ _ (by omega) (by rw [if_neg (by omega)]; rfl) (hI.next (by rw [u2_s, u2_n _ _ _ (by omega), swB_lv (by omega)]) (by rw [u2_n _ _ _ (by omega), u2_s, swB_sp (by omega)]) fun a a1 a2 => by rw [u2_n _ _ _ a1, u2_n _ _ _ a2])
      · have e39 : ¬ c = 39 := by omega
        refine wp_aload_n dX4_moveWater_30 rfl ?_
        refine wp_getQ fX4_23 hT.t0.1 rfl hR.f1 (by omega) (by have := hT.lt; omega) dX4_moveWater_31 ?_
        refine wp_iload_n dX4_moveWater_34 rfl ?_
        refine wp_iconst (v := 1) dX4_moveWater_35 (by decide) ?_
        refine wp_iadd dX4_moveWater_36 ?_
        refine wp_iadn (i := (c + 1)) (ix_add rfl rfl) hT.t2.1 (by have := hT.lt; omega) (by rw [hT.t2.2]; omega) (by have := hT.lt; omega) dX4_moveWater_37 ((hI.2.1 (c + 1) (by omega)).trans (if_neg (by omega))) ?_
        refine wp_goto (tgt := 42) dX4_moveWater_38 (by decide) ?_
        refine wp_istore (L' := [some (.ref b), some (.int lf), some (.int (nI c)), some (.int (sg (6 + c))), some (.int (sg (6 + (c + 1)))), none]) dX4_moveWater_42 (by decide) rfl ?_
        refine wp_aload_n dX4_moveWater_44 rfl ?_
        refine wp_getQ fX4_26 hT.t0.1 rfl hR.f2 (by omega) (by have := hT.lt; omega) dX4_moveWater_45 ?_
        refine wp_iload_n dX4_moveWater_48 rfl ?_
        refine wp_iadn (i := c) rfl hT.t3.1 (by have := hT.lt; omega) (by rw [hT.t3.2]; omega) (by have := hT.lt; omega) dX4_moveWater_49 ((hI.2.2 c (by omega)).trans (if_neg (by omega))) ?_
        refine wp_iload_n dX4_moveWater_50 rfl ?_
        refine wp_iload dX4_moveWater_51 rfl ?_
        refine wp_iadd dX4_moveWater_53 ?_
        refine wp_iconst (v := 2) dX4_moveWater_54 (by decide) ?_
        refine wp_iload_n dX4_moveWater_55 rfl ?_
        refine wp_imul dX4_moveWater_56 ?_
        refine wp_isub dX4_moveWater_57 ?_
        refine wp_iconst (v := 4) dX4_moveWater_58 (by decide) ?_
        refine wp_idiv dX4_moveWater_59 (by decide) ?_
        refine wp_iadd dX4_moveWater_60 ?_
        refine wp_cT1 (z := mX5_withinBounds) (n' := 247) kX4_140 dX4_moveWater_61 (Nat.le_of_ble_eq_true rfl) (Nat.le_of_ble_eq_true rfl) (Nat.le_of_ble_eq_true rfl) (Nat.le_refl _) (Nat.le_refl _) (s_X5_withinBounds (wp_af ?_))
        refine wp_istore (L' := [some (.ref b), some (.int lf), some (.int (nI c)), some (.int (sg (6 + c))), some (.int (sg (6 + (c + 1)))), some (.int _)]) dX4_moveWater_64 (by decide) rfl ?_
        refine wp_iload dX4_moveWater_66 rfl ?_
        refine wp_iload dX4_moveWater_68 rfl ?_
        refine wp_aload_n dX4_moveWater_70 rfl ?_
        refine wp_getQ fX4_18 hT.t0.1 rfl hR.f0 (by omega) (by have := hT.lt; omega) dX4_moveWater_71 ?_
        refine wp_iconst (v := 1) dX4_moveWater_74 (by decide) ?_
        refine wp_iadn (i := 1) rfl hT.t1.1 (by have := hT.lt; omega) (by rw [hT.t1.2]; omega) (by have := hT.lt; omega) dX4_moveWater_75 ((congrFun (hI.1 (b + 1) (by omega) (by omega)) 1).trans (hk.cset (by decide))) ?_
        refine wp_imul dX4_moveWater_76 ?_
        refine wp_bipush (v := 100) dX4_moveWater_77 (by decide) ?_
        refine wp_idiv dX4_moveWater_79 (by decide) ?_
        refine wp_isub dX4_moveWater_80 ?_
        refine wp_top (z := spdV sg c) (by rw [spdV, hlf]; first | rw [if_pos e39] | rw [if_neg e39]) ?_
        refine wp_istore (L' := [some (.ref b), some (.int lf), some (.int (nI c)), some (.int (sg (6 + c))), some (.int (sg (6 + (c + 1)))), some (.int (spdV sg c))]) dX4_moveWater_81 (by decide) rfl ?_
        refine wp_aload_n dX4_moveWater_83 rfl ?_
        refine wp_getQ fX4_26 hT.t0.1 rfl hR.f2 (by omega) (by have := hT.lt; omega) dX4_moveWater_84 ?_
        refine wp_iload_n dX4_moveWater_87 rfl ?_
        refine wp_iload dX4_moveWater_88 rfl ?_
        refine wp_iast (i := c) rfl hT.t3.1 (by have := hT.lt; omega) (by rw [hT.t3.2]; omega) (by have := hT.lt; omega) dX4_moveWater_90 ?_
        refine wp_aload_n dX4_moveWater_91 rfl ?_
        refine wp_getQ fX4_23 hT.t0.1 rfl hR.f1 (by omega) (by have := hT.lt; omega) dX4_moveWater_92 ?_
        refine wp_iload_n dX4_moveWater_95 rfl ?_
        refine wp_iload_n dX4_moveWater_96 rfl ?_
        refine wp_iload dX4_moveWater_97 rfl ?_
        refine wp_iadd dX4_moveWater_99 ?_
        refine wp_cT1 (z := mX5_withinBounds) (n' := 247) kX4_140 dX4_moveWater_100 (Nat.le_of_ble_eq_true rfl) (Nat.le_of_ble_eq_true rfl) (Nat.le_of_ble_eq_true rfl) (Nat.le_refl _) (Nat.le_refl _) (s_X5_withinBounds (wp_af ?_))
        refine wp_iast (i := c) rfl hT.t2.1 (by have := hT.lt; omega) (by rw [hT.t2.2]; omega) (by have := hT.lt; omega) dX4_moveWater_103 ?_
        refine wp_iload_n dX4_moveWater_104 rfl ?_
        refine wp_istore_n (L' := [some (.ref b), some (.int (sg (6 + c))), some (.int (nI c)), some (.int (sg (6 + c))), some (.int (sg (6 + (c + 1)))), some (.int (spdV sg c))]) dX4_moveWater_105 (by decide) rfl ?_
        refine wp_iinc (v := nI (c + 1)) (L' := [some (.ref b), some (.int (sg (6 + c))), some (.int (nI (c + 1))), some (.int (sg (6 + c))), some (.int (sg (6 + (c + 1)))), some (.int (spdV sg c))]) dX4_moveWater_106 (by decide) rfl (inc_1 _) rfl ?_
        refine wp_goto (tgt := 9) dX4_moveWater_109 (by decide) ?_
        exact ih (c + 1) _ _ _ _ _ (by omega) (by rw [if_neg (by omega)]; rfl) (hI.next (by rw [u2_s, u2_n _ _ _ (by omega), swB_lv (by omega)]) (by rw [u2_n _ _ _ (by omega), u2_s, swB_sp (by omega)]) fun a a1 a2 => by rw [u2_n _ _ _ a1, u2_n _ _ _ a2])
  refine wp_aload_n dX4_moveWater_0 rfl ?_
  refine wp_getQ fX4_23 hT.t0.1 rfl hR.f1 (by omega) (by have := hT.lt; omega) dX4_moveWater_1 ?_
  refine wp_iconst (v := 0) dX4_moveWater_4 (by decide) ?_
  refine wp_iadn (i := 0) rfl hT.t2.1 (by have := hT.lt; omega) (by rw [hT.t2.2]; omega) (by have := hT.lt; omega) dX4_moveWater_5 (hk.clev (by decide)) ?_
  refine wp_istore_n (L' := [some (.ref b), some (.int (sg 6)), none, none, none, none]) dX4_moveWater_6 (by decide) rfl ?_
  refine wp_iconst (v := 0) dX4_moveWater_7 (by decide) ?_
  refine wp_istore_n (L' := [some (.ref b), some (.int (sg 6)), some (.int _), none, none, none]) dX4_moveWater_8 (by decide) rfl ?_
  exact loop 40 0 _ M _ _ _ rfl rfl ⟨fun _ _ _ => rfl, fun j hj => by rw [if_neg (by omega)]; exact hk.clev hj, fun j hj => by rw [if_neg (by omega)]; exact hk.cspd hj⟩

set_option maxRecDepth 100000 in
set_option maxHeartbeats 4000000 in
theorem s_X4_calmBeach {γ : Gm} {l : Launch} {M : Mm} {R : Rm} {K : KT} {b np ng : Nat} {sg : Nat → Int32}  (hT : Tb b) (hR : RT R b) (hk : Tk M R b np ng sg) (ho : Ok0 sg np ng) (hK : ∀ M1, FrM b M M1 → Tk M1 R b np ng (bcN sg 40) → K none 247 M1 R) : CL γ l mX4_calmBeach 0 247 247 [.ref b] M R K := by
  show WP γ l mX4_calmBeach 0 247 247 0 [some (.ref b), none, none] [] 247 M R K
  have ifs : ∀ {x z : Int32} {p : Prop} [Decidable p], ¬ p → (if p then x else z) = z := fun h => if_neg h
  have loop : ∀ (q c : Nat) (M1 : Mm) (t2 : Option Value), q + c = 40 → 36 ≤ c → WtI M M1 b sg (bcN sg 40) c → WP γ l mX4_calmBeach 0 247 247 3 [some (.ref b), some (.int (nI c)), t2] [] 247 M1 R K := by
    intro q
    induction q with
    | zero =>
      intro c M1 t2 hq hc hI
      refine wp_drop [some (.ref b), some (.int (nI c)), none] (by simp [leL]) ?_
      refine wp_iload_n dX4_calmBeach_3 rfl ?_
      refine wp_bipush (v := 40) dX4_calmBeach_4 (by decide) ?_
      refine wp_icN_ge (a := c) (b := 40) (tgt := 71) dX4_calmBeach_6 (by decide) rfl rfl (by omega) (by omega) (fun h6 => ?_) (fun h6 => absurd h6 (by omega))
      exact wp_vret dX4_calmBeach_71 rfl rfl (hK M1 hI.fr (hk.waters hR ho.1.2 hI.1 (fun j hj => (hI.2.1 j hj).trans (if_pos (by omega))) (fun j hj => (hI.2.2 j hj).trans (if_pos (by omega))) fun j hj => bcN_same hj))
    | succ q ih =>
      intro c M1 t2 hq hc hI
      refine wp_drop [some (.ref b), some (.int (nI c)), none] (by simp [leL]) ?_
      refine wp_iload_n dX4_calmBeach_3 rfl ?_
      refine wp_bipush (v := 40) dX4_calmBeach_4 (by decide) ?_
      refine wp_icN_ge (a := c) (b := 40) (tgt := 71) dX4_calmBeach_6 (by decide) rfl rfl (by omega) (by omega) (fun h6 => absurd h6 (by omega)) (fun h6 => ?_)
      refine wp_aload_n dX4_calmBeach_9 rfl ?_
      refine wp_getQ fX4_18 hT.t0.1 rfl hR.f0 (by omega) (by have := hT.lt; omega) dX4_calmBeach_10 ?_
      refine wp_iconst (v := 0) dX4_calmBeach_13 (by decide) ?_
      refine wp_iadn (i := 0) rfl hT.t1.1 (by have := hT.lt; omega) (by rw [hT.t1.2]; omega) (by have := hT.lt; omega) dX4_calmBeach_14 ((congrFun (hI.1 (b + 1) (by omega) (by omega)) 0).trans (hk.cset (by decide))) ?_
      refine wp_iload_n dX4_calmBeach_15 rfl ?_
      refine wp_bipush (v := 36) dX4_calmBeach_16 (by decide) ?_
      refine wp_isub dX4_calmBeach_18 ?_
      refine wp_iconst (v := 1) dX4_calmBeach_19 (by decide) ?_
      refine wp_iadd dX4_calmBeach_20 ?_
      refine wp_top (((ix_add (ix_sub (a := c) (b := 36) rfl rfl (by omega)) rfl)).trans (by rw [show c - 36 + 1 = c - 35 by omega])) ?_
      refine wp_imul dX4_calmBeach_21 ?_
      refine wp_istore_n (L' := [some (.ref b), some (.int (nI c)), some (.int _)]) dX4_calmBeach_22 (by decide) rfl ?_
      refine wp_aload_n dX4_calmBeach_23 rfl ?_
      refine wp_getQ fX4_23 hT.t0.1 rfl hR.f1 (by omega) (by have := hT.lt; omega) dX4_calmBeach_24 ?_
      refine wp_iload_n dX4_calmBeach_27 rfl ?_
      refine wp_dup2 dX4_calmBeach_28 rfl rfl ?_
      refine wp_iadn (i := c) rfl hT.t2.1 (by have := hT.lt; omega) (by rw [hT.t2.2]; omega) (by have := hT.lt; omega) dX4_calmBeach_29 ((hI.2.1 c (by omega)).trans (ifs (by omega))) ?_
      refine wp_aload_n dX4_calmBeach_30 rfl ?_
      refine wp_getQ fX4_23 hT.t0.1 rfl hR.f1 (by omega) (by have := hT.lt; omega) dX4_calmBeach_31 ?_
      refine wp_iload_n dX4_calmBeach_34 rfl ?_
      refine wp_iadn (i := c) rfl hT.t2.1 (by have := hT.lt; omega) (by rw [hT.t2.2]; omega) (by have := hT.lt; omega) dX4_calmBeach_35 ((hI.2.1 c (by omega)).trans (ifs (by omega))) ?_
      refine wp_iload_n dX4_calmBeach_36 rfl ?_
      refine wp_imul dX4_calmBeach_37 ?_
      refine wp_sipush (v := 400) dX4_calmBeach_38 (by decide) ?_
      refine wp_idiv dX4_calmBeach_41 (by decide) ?_
      refine wp_isub dX4_calmBeach_42 ?_
      refine wp_iast (i := c) rfl hT.t2.1 (by have := hT.lt; omega) (by rw [hT.t2.2]; omega) (by have := hT.lt; omega) dX4_calmBeach_43 ?_
      refine wp_aload_n dX4_calmBeach_44 rfl ?_
      refine wp_getQ fX4_26 hT.t0.1 rfl hR.f2 (by omega) (by have := hT.lt; omega) dX4_calmBeach_45 ?_
      refine wp_iload_n dX4_calmBeach_48 rfl ?_
      refine wp_dup2 dX4_calmBeach_49 rfl rfl ?_
      refine wp_iadn (i := c) rfl hT.t3.1 (by have := hT.lt; omega) (by rw [hT.t3.2]; omega) (by have := hT.lt; omega) dX4_calmBeach_50 ((congrFun (u2_n _ _ _ (by omega)) c).trans ((hI.2.2 c (by omega)).trans (ifs (by omega)))) ?_
      refine wp_aload_n dX4_calmBeach_51 rfl ?_
      refine wp_getQ fX4_26 hT.t0.1 rfl hR.f2 (by omega) (by have := hT.lt; omega) dX4_calmBeach_52 ?_
      refine wp_iload_n dX4_calmBeach_55 rfl ?_
      refine wp_iadn (i := c) rfl hT.t3.1 (by have := hT.lt; omega) (by rw [hT.t3.2]; omega) (by have := hT.lt; omega) dX4_calmBeach_56 ((congrFun (u2_n _ _ _ (by omega)) c).trans ((hI.2.2 c (by omega)).trans (ifs (by omega)))) ?_
      refine wp_iload_n dX4_calmBeach_57 rfl ?_
      refine wp_imul dX4_calmBeach_58 ?_
      refine wp_sipush (v := 400) dX4_calmBeach_59 (by decide) ?_
      refine wp_idiv dX4_calmBeach_62 (by decide) ?_
      refine wp_isub dX4_calmBeach_63 ?_
      refine wp_iast (i := c) rfl hT.t3.1 (by have := hT.lt; omega) (by rw [hT.t3.2]; omega) (by have := hT.lt; omega) dX4_calmBeach_64 ?_
      refine wp_iinc (v := nI (c + 1)) (L' := [some (.ref b), some (.int (nI (c + 1))), some (.int _)]) dX4_calmBeach_65 (by decide) rfl (inc_1 _) rfl ?_
      refine wp_goto (tgt := 3) dX4_calmBeach_68 (by decide) ?_
      exact ih (c + 1) _ _ (by omega) (by omega) (hI.next (by rw [u2_n _ _ _ (by omega), u2_s, bcN_lv hc (by omega)]; rfl) (by rw [u2_s, u2_n _ _ _ (by omega), bcN_sp hc (by omega)]; rfl) fun a a1 a2 => by rw [u2_n _ _ _ a2, u2_n _ _ _ a1])
  refine wp_bipush (v := 36) dX4_calmBeach_0 (by decide) ?_
  refine wp_istore_n (L' := [some (.ref b), some (.int _), none]) dX4_calmBeach_2 (by decide) rfl ?_
  exact loop 4 36 M _ rfl (by omega) ⟨fun _ _ _ => rfl, fun j hj => by rw [hk.clev hj]; split; rw [bcN_l0 (by omega)]; rfl, fun j hj => by rw [hk.cspd hj]; split; rw [bcN_s0 (by omega)]; rfl⟩
