/-! THE CLASS: a rank opened -/
/-- the places of paddles behind an opened rank m, the spare one of n taken -/
def opS (n m i : Nat) : Nat := if i < m then i else if i = m then n else if i ≤ n then i - 1 else i
def opR (w : Nat → Nat) (n q : Nat) : Nat → Nat := fun i => if q < i ∧ i ≤ n then w (i - 1) else w i
theorem opR_s (w : Nat → Nat) (n p : Nat) (h : p + 1 ≤ n) : up (opR w n (p + 1)) (p + 1) (w p) = opR w n p := by
  funext i
  by_cases e : i = p + 1
  · subst e
    rw [up_s, opR, if_pos (by omega), Nat.add_sub_cancel]
  · rw [up_n _ _ e, opR, opR]
    by_cases e2 : p + 1 < i ∧ i ≤ n
    · rw [if_pos e2, if_pos (by omega)]
    · rw [if_neg e2, if_neg (by omega)]
theorem opR_0 (w : Nat → Nat) (n : Nat) : opR w n n = w := by
  funext i
  rw [opR, if_neg (by omega)]
theorem opR_S (w : Nat → Nat) (n m : Nat) (h : m ≤ n) (i : Nat) : up (opR w n m) m (w n) i = w (opS n m i) := by
  by_cases e : i = m
  · rw [e, up_s, opS, if_neg (by omega), if_pos rfl]
  · rw [up_n _ _ e, opR, opS]
    by_cases e1 : i < m
    · rw [if_neg (by omega), if_pos e1]
    · rw [if_neg e1, if_neg e]
      by_cases e2 : i ≤ n
      · rw [if_pos (by omega), if_pos e2]
      · rw [if_neg (by omega), if_neg e2]
set_option maxRecDepth 100000 in
set_option maxHeartbeats 4000000 in
theorem s_X4_openRank {γ : Gm} {l : Launch} {M : Mm} {R : Rm} {K : KT} {b np ng : Nat} {sg : Nat → Int32} {c : Int32}  (hT : Tb b) (hR : RT R b) (hk : Tk M R b np ng sg) (ho : Ok0 sg np ng) (hE : np = 6 → K (some (.int (-4))) 247 M R) (hK : np < 6 → ∀ R1, FrR b R R1 → (∀ i, R1 (b + 4) i = R (b + 4) (opS np (psn sg c np) i)) → K (some (.int (nI (psn sg c np)))) 247 (u2 M b 5 (nI (np + 1))) R1) : CL γ l mX4_openRank 0 247 247 [.ref b, .int c] M R K := by
  show WP γ l mX4_openRank 0 247 247 0 [some (.ref b), some (.int c), none, none] [] 247 M R K
  have h6 := ho.1.2
  have enp : M b 5 = nI np := hk.cnp.trans ho.1.1
  refine wp_aload_n dX4_openRank_0 rfl ?_
  refine wp_getJ (v := nI np) fX4_49 hT.t0.1 rfl (by have := hT.lt; omega) dX4_openRank_1 (enp) ?_
  refine wp_bipush (v := 6) dX4_openRank_4 (by decide) ?_
  refine wp_icN_lt (a := np) (b := 6) (tgt := 12) dX4_openRank_6 (by decide) rfl rfl (by omega) (by omega) (fun h6b => ?_) (fun h6b => ?_)
  · obtain ⟨pd, hpd⟩ : ∃ pd, pd = R (b + 4) np := ⟨_, rfl⟩
    have hp : b + 6 ≤ pd ∧ pd < b + 12 := by rw [hpd]; exact hR.2.2.1 np (by omega)
    refine wp_aload_n dX4_openRank_12 rfl ?_
    refine wp_getQ fX4_31 hT.t0.1 rfl hR.f3 (by omega) (by have := hT.lt; omega) dX4_openRank_13 ?_
    refine wp_aload_n dX4_openRank_16 rfl ?_
    refine wp_getJ (v := nI np) fX4_49 hT.t0.1 rfl (by have := hT.lt; omega) dX4_openRank_17 (enp) ?_
    refine wp_aalq (i := np) rfl (by rw [hT.t4.1]; decide) (by rw [hT.t4.2]; omega) (hpd.symm) (by omega) (by have := hT.lt; omega) dX4_openRank_20 ?_
    refine wp_astore_n (L' := [some (.ref b), some (.int c), some (.ref pd), none]) dX4_openRank_21 (by decide) rfl ?_
    refine wp_aload_n dX4_openRank_22 rfl ?_
    refine wp_getJ (v := nI np) fX4_49 hT.t0.1 rfl (by have := hT.lt; omega) dX4_openRank_23 (enp) ?_
    refine wp_istore_n (L' := [some (.ref b), some (.int c), some (.ref pd), some (.int (nI np))]) dX4_openRank_26 (by decide) rfl ?_
    have out : ∀ q, q ≤ np → psn sg c np = q → WP γ l mX4_openRank 0 247 247 66 [some (.ref b), some (.int c), some (.ref pd), some (.int (nI q))] [] 247 M (up R (b + 4) (opR (R (b + 4)) np q)) K := by
      intro q hq hpq
      have h3 : (up R (b + 4) (opR (R (b + 4)) np q)) b 3 = b + 4 := by rw [up_n _ _ (by omega)]; exact hR.f3
      refine wp_aload_n dX4_openRank_66 rfl ?_
      refine wp_getQ fX4_31 hT.t0.1 rfl h3 (by omega) (by have := hT.lt; omega) dX4_openRank_67 ?_
      refine wp_iload_n dX4_openRank_70 rfl ?_
      refine wp_aload_n dX4_openRank_71 rfl ?_
      refine wp_aast (i := q) rfl (by rw [hT.t4.1]; decide) (by rw [hT.t4.2]; omega) (by rw [(hT.tp hp.1 hp.2).1, hT.t4.1]; rfl) (by have := hT.lt; omega) (by have := hT.lt; omega) dX4_openRank_72 ?_
      refine wp_aload_n dX4_openRank_73 rfl ?_
      refine wp_dup dX4_openRank_74 rfl ?_
      refine wp_getJ (v := nI np) fX4_49 hT.t0.1 rfl (by have := hT.lt; omega) dX4_openRank_75 (enp) ?_
      refine wp_iconst (v := 1) dX4_openRank_78 (by decide) ?_
      refine wp_iadd dX4_openRank_79 ?_
      refine wp_top (z := nI (np + 1)) (nI_1 np) ?_
      refine wp_putI pX4_49 hT.t0.1 rfl ⟨rfl, rfl⟩ (by have := hT.lt; omega) dX4_openRank_80 ?_
      refine wp_iload_n dX4_openRank_83 rfl ?_
      exact wp_iret dX4_openRank_84 rfl rfl rfl (by
        have := hK h6b (u2 (up R (b + 4) (opR (R (b + 4)) np q)) (b + 4) q pd) (fun a ha => by rw [u2_n _ _ _ ha, up_n _ _ ha]) (fun i => by rw [u2_s, up_s, hpd, hpq]; exact opR_S _ _ _ hq i)
        rw [hpq] at this
        exact this)
    have loop : ∀ q, q ≤ np → psn sg c np = psn sg c q → WP γ l mX4_openRank 0 247 247 27 [some (.ref b), some (.int c), some (.ref pd), some (.int (nI q))] [] 247 M (up R (b + 4) (opR (R (b + 4)) np q)) K := by
      intro q
      induction q with
      | zero =>
        intro hq hpq
        refine wp_iload_n dX4_openRank_27 rfl ?_
        refine wp_ifN_le (a := 0) (tgt := 66) dX4_openRank_28 (by decide) rfl (by omega) (fun _ => ?_) (fun h => absurd h (by decide))
        exact out 0 hq hpq
      | succ p ih =>
        intro hq hpq
        have h3 : (up R (b + 4) (opR (R (b + 4)) np (p + 1))) b 3 = b + 4 := by rw [up_n _ _ (by omega)]; exact hR.f3
        obtain ⟨pd2, hpd2⟩ : ∃ pd2, (up R (b + 4) (opR (R (b + 4)) np (p + 1))) (b + 4) p = pd2 := ⟨_, rfl⟩
        have hpd3 : pd2 = R (b + 4) p := by rw [← hpd2, up_s, opR, if_neg (by omega)]
        have hp2 : b + 6 ≤ pd2 ∧ pd2 < b + 12 := by rw [hpd3]; exact hR.2.2.1 p (by omega)
        have hcl : M pd2 0 = sg (86 + 6 * p) := by rw [hpd3]; exact hk.cpad (by omega) (by decide)
        refine wp_iload_n dX4_openRank_27 rfl ?_
        refine wp_ifN_le (a := (p + 1)) (tgt := 66) dX4_openRank_28 (by decide) rfl (by omega) (fun h28 => absurd h28 (by omega)) (fun h28 => ?_)
        refine wp_aload_n dX4_openRank_31 rfl ?_
        refine wp_getQ fX4_31 hT.t0.1 rfl h3 (by omega) (by have := hT.lt; omega) dX4_openRank_32 ?_
        refine wp_iload_n dX4_openRank_35 rfl ?_
        refine wp_iconst (v := 1) dX4_openRank_36 (by decide) ?_
        refine wp_isub dX4_openRank_37 ?_
        refine wp_aalq (i := ((p + 1) - 1)) (ix_sub (a := (p + 1)) (b := 1) rfl rfl (by omega)) (by rw [hT.t4.1]; decide) (by rw [hT.t4.2]; omega) (hpd2) (by omega) (by have := hT.lt; omega) dX4_openRank_38 ?_
        refine wp_getJ fX4_87 (hT.tp hp2.1 hp2.2).1 rfl (by have := hT.lt; omega) dX4_openRank_39 (hcl) ?_
        refine wp_iload_n dX4_openRank_42 rfl ?_
        refine wp_icmp_le (tgt := 66) dX4_openRank_43 (by decide) (fun h43 => ?_) (fun h43 => ?_)
        · have e43 : psn sg c (p + 1) = p + 1 := by rw [psn, if_neg (fun h => Int32.not_lt.mpr h43 h)]
          exact out (p + 1) hq (hpq.trans e43)
        · have e43 : psn sg c (p + 1) = psn sg c p := by rw [psn, if_pos (Int32.not_le.mp h43)]
          refine wp_aload_n dX4_openRank_46 rfl ?_
          refine wp_getQ fX4_31 hT.t0.1 rfl h3 (by omega) (by have := hT.lt; omega) dX4_openRank_47 ?_
          refine wp_iload_n dX4_openRank_50 rfl ?_
          refine wp_aload_n dX4_openRank_51 rfl ?_
          refine wp_getQ fX4_31 hT.t0.1 rfl h3 (by omega) (by have := hT.lt; omega) dX4_openRank_52 ?_
          refine wp_iload_n dX4_openRank_55 rfl ?_
          refine wp_iconst (v := 1) dX4_openRank_56 (by decide) ?_
          refine wp_isub dX4_openRank_57 ?_
          refine wp_aalq (i := ((p + 1) - 1)) (ix_sub (a := (p + 1)) (b := 1) rfl rfl (by omega)) (by rw [hT.t4.1]; decide) (by rw [hT.t4.2]; omega) (hpd2) (by omega) (by have := hT.lt; omega) dX4_openRank_58 ?_
          refine wp_aast (i := (p + 1)) rfl (by rw [hT.t4.1]; decide) (by rw [hT.t4.2]; omega) (by rw [(hT.tp hp2.1 hp2.2).1, hT.t4.1]; rfl) (by have := hT.lt; omega) (by have := hT.lt; omega) dX4_openRank_59 ?_
          refine wp_iinc (v := nI ((p + 1) - 1)) (L' := [some (.ref b), some (.int c), some (.ref pd), some (.int (nI ((p + 1) - 1)))]) dX4_openRank_60 (by decide) rfl (dec_1 (by omega)) rfl ?_
          refine wp_goto (tgt := 27) dX4_openRank_63 (by decide) ?_
          rw [u2_at (up_s _ _ _), up_up, hpd3, opR_s _ _ _ hq]
          exact ih (by omega) (hpq.trans e43)
    have := loop np (Nat.le_refl _) rfl
    rw [opR_0, up_eta] at this
    exact this
  · refine wp_bipush (v := (-4)) dX4_openRank_9 (by decide) ?_
    exact wp_iret dX4_openRank_11 rfl rfl rfl (hE (by omega))
