/-! THE CLASS: paddles removed -/
/-- of the references, the tank's order of paddles alone changed -/
def FrR (b : Nat) (R R1 : Rm) : Prop := ∀ a, a ≠ b + 4 → R1 a = R a
theorem RT.perm {R R1 : Rm} {b : Nat} (h : RT R b) (s : Nat → Nat) (h1 : ∀ i, i < 6 → s i < 6) (h2 : ∀ i j, i < 6 → j < 6 → s i = s j → i = j) (h3 : ∀ i, i < 6 → R1 (b + 4) i = R (b + 4) (s i)) (h4 : FrR b R R1) : RT R1 b := by
  obtain ⟨⟨a1, a2, a3, a4, a5⟩, g2, g3, g4⟩ := h
  refine ⟨⟨by rw [h4 _ (by omega)]; exact a1, by rw [h4 _ (by omega)]; exact a2, by rw [h4 _ (by omega)]; exact a3, by rw [h4 _ (by omega)]; exact a4, by rw [h4 _ (by omega)]; exact a5⟩, fun g hg => by rw [h4 _ (by omega), h4 _ (by omega)]; exact g2 g hg, fun k hk => by rw [h3 k hk]; exact g3 _ (h1 k hk), fun i j hi hj e => ?_⟩
  rw [h3 i hi, h3 j hj] at e
  exact h2 i j hi hj (g4 _ _ (h1 i hi) (h1 j hj) e)
theorem Tk.perm {M : Mm} {R R1 : Rm} {b np ng n1 : Nat} {sg ro : Nat → Int32} (h : Tk M R b np ng sg) (s : Nat → Nat) (h1 : ∀ i, i < n1 → s i < np) (h3 : ∀ i, i < n1 → R1 (b + 4) i = R (b + 4) (s i)) (hn : M b 5 = ro 4) (hp : ∀ k, k < n1 → ∀ j, j < 6 → ro (86 + 6 * k + j) = sg (86 + 6 * s k + j)) (hs : ∀ j, j ≠ 4 → j < 86 ∨ 122 ≤ j → ro j = sg j) : Tk M R1 b n1 ng ro := by
  obtain ⟨a1, ⟨a2, a3, a7⟩, a8, a9, a10, a11⟩ := h
  exact ⟨fun i hi => by rw [hs _ (by omega) (by omega)]; exact a1 i hi, ⟨by rw [hs _ (by omega) (by omega)]; exact a2, hn, by rw [hs _ (by omega) (by omega)]; exact a7⟩, fun i hi => by rw [hs _ (by omega) (by omega)]; exact a8 i hi, fun i hi => by rw [hs _ (by omega) (by omega)]; exact a9 i hi, fun k hk j hj => by rw [h3 k hk, hp k hk j hj]; exact a10 _ (h1 k hk) j hj, fun g hg => (a11 g hg).congr rfl rfl fun j _ _ => hs _ (by omega) (by omega)⟩
def rmS (np k i : Nat) : Nat := if i < k then i else if i < np - 1 then i + 1 else if i = np - 1 then k else i
def rmR (w : Nat → Nat) (k q : Nat) : Nat → Nat := fun i => if k ≤ i ∧ i < q then w (i + 1) else w i
theorem rmR_s (w : Nat → Nat) (k q : Nat) (h : k ≤ q) : up (rmR w k q) q (w (q + 1)) = rmR w k (q + 1) := by
  funext i
  by_cases e : i = q
  · subst e
    rw [up_s, rmR, if_pos (by omega)]
  · rw [up_n _ _ e, rmR, rmR]
    by_cases e2 : k ≤ i ∧ i < q
    · rw [if_pos e2, if_pos (by omega)]
    · rw [if_neg e2, if_neg (by omega)]
theorem rmR_0 (w : Nat → Nat) (k : Nat) : rmR w k k = w := by
  funext i
  rw [rmR, if_neg (by omega)]
theorem Tk.unp {M : Mm} {R : Rm} {b np ng : Nat} {sg : Nat → Int32} (h : Tk M R b np ng sg) (hR : RT R b) (h6 : np ≤ 6) (v : Int32) : Tk (u2 M b 5 v) R b np ng (up sg 4 v) := by
  obtain ⟨h1, ⟨h2, h3, h7⟩, h8, h9, h10, h11⟩ := h
  refine ⟨fun i hi => by rw [u2_n _ _ _ (by omega), up_n _ _ (by omega)]; exact h1 i hi, ⟨by rw [u2_s, up_n _ _ (by omega), up_n _ _ (by omega)]; exact h2, by rw [u2_s, up_s, up_s], by rw [u2_s, up_n _ _ (by omega), up_n _ _ (by omega)]; exact h7⟩, fun i hi => by rw [u2_n _ _ _ (by omega), up_n _ _ (by omega)]; exact h8 i hi, fun i hi => by rw [u2_n _ _ _ (by omega), up_n _ _ (by omega)]; exact h9 i hi, fun k hk j hj => ?_, fun g hg => (h11 g hg).congr (u2_n _ _ _ (by omega)) (u2_n _ _ _ (by omega)) fun j _ _ => up_n _ _ (by omega)⟩
  have := hR.2.2.1 k (by omega)
  rw [u2_n _ _ _ (by omega), up_n _ _ (by omega)]
  exact h10 k hk j hj
set_option maxRecDepth 100000 in
set_option maxHeartbeats 4000000 in
theorem s_X4_removePaddle {γ : Gm} {l : Launch} {M : Mm} {R : Rm} {K : KT} {b np ng : Nat} {sg : Nat → Int32} {c : Int32}  (hT : Tb b) (hR : RT R b) (hk : Tk M R b np ng sg) (ho : Ok0 sg np ng) (hE : rkU sg c np = -6 → K (some (.int (-1))) 247 M R) (hK : ∀ k, k < np → rkU sg c np = nI k → ∀ M1 R1, FrM b M M1 → FrR b R R1 → RT R1 b → Tk M1 R1 b (np - 1) ng (lfF sg np k) → K (some (.int (nI (np - 1)))) 247 M1 R1) : CL γ l mX4_removePaddle 1 247 247 [.ref b, .int c] M R K := by
  show WP γ l mX4_removePaddle 1 247 247 0 [some (.ref b), some (.int c), none, none, none] [] 247 M R K
  have h6 := ho.1.2
  refine wp_aload_n dX4_removePaddle_0 rfl ?_
  refine wp_iload_n dX4_removePaddle_1 rfl ?_
  refine wp_cV1 (z := mX4_rankIn) (n' := 247) kX4_80 dX4_removePaddle_2 (Nat.le_of_ble_eq_true rfl) (Nat.le_of_ble_eq_true rfl) hT.t0.1 (by have := hT.lt; omega) (Nat.le_of_ble_eq_true rfl) (Nat.le_refl _) (Nat.le_refl _) (s_X4_rankIn hT hR hk ho (wp_af ?_))
  refine wp_istore_n (L' := [some (.ref b), some (.int c), some (.int _), none, none]) dX4_removePaddle_5 (by decide) rfl ?_
  refine wp_iload_n dX4_removePaddle_6 rfl ?_
  refine wp_if_ge (tgt := 12) dX4_removePaddle_7 (by decide) (fun h7 => ?_) (fun h7 => ?_)
  · obtain ⟨k, hkn, e1, e2⟩ := rkC_in h7
    obtain ⟨pd, hpd⟩ : ∃ pd, pd = R (b + 4) k := ⟨_, rfl⟩
    have hp : b + 6 ≤ pd ∧ pd < b + 12 := by rw [hpd]; exact hR.2.2.1 k (by omega)
    refine wp_loc (L' := [some (.ref b), some (.int c), some (.int (nI k)), none, none]) (by rw [e2]) ?_
    refine wp_aload_n dX4_removePaddle_12 rfl ?_
    refine wp_getQ fX4_31 hT.t0.1 rfl hR.f3 (by omega) (by have := hT.lt; omega) dX4_removePaddle_13 ?_
    refine wp_iload_n dX4_removePaddle_16 rfl ?_
    refine wp_aalq (i := k) rfl (by rw [hT.t4.1]; decide) (by rw [hT.t4.2]; omega) (hpd.symm) (by omega) (by have := hT.lt; omega) dX4_removePaddle_17 ?_
    refine wp_astore_n (L' := [some (.ref b), some (.int c), some (.int (nI k)), some (.ref pd), none]) dX4_removePaddle_18 (by decide) rfl ?_
    refine wp_aload_n dX4_removePaddle_19 rfl ?_
    refine wp_dup dX4_removePaddle_20 rfl ?_
    refine wp_getJ (v := nI np) fX4_49 hT.t0.1 rfl (by have := hT.lt; omega) dX4_removePaddle_21 (hk.cnp.trans ho.1.1) ?_
    refine wp_iconst (v := 1) dX4_removePaddle_24 (by decide) ?_
    refine wp_isub dX4_removePaddle_25 ?_
    refine wp_top (z := nI (np - 1)) (by obtain ⟨p, hpn⟩ : ∃ p, np = p + 1 := ⟨np - 1, by omega⟩; rw [hpn]; exact nI_m1 p) ?_
    refine wp_putI pX4_49 hT.t0.1 rfl ⟨rfl, rfl⟩ (by have := hT.lt; omega) dX4_removePaddle_26 ?_
    refine wp_iload_n dX4_removePaddle_29 rfl ?_
    refine wp_istore (L' := [some (.ref b), some (.int c), some (.int (nI k)), some (.ref pd), some (.int (nI k))]) dX4_removePaddle_30 (by decide) rfl ?_
    have en : ∀ X : Mm, X = u2 M b 5 (nI (np - 1)) → X b 5 = nI (np - 1) := fun X hX => by rw [hX, u2_s, up_s]
    have loop : ∀ (f q : Nat), f + q = np - 1 → k ≤ q → WP γ l mX4_removePaddle 1 247 247 32 [some (.ref b), some (.int c), some (.int (nI k)), some (.ref pd), some (.int (nI q))] [] 247 (u2 M b 5 (nI (np - 1))) (up R (b + 4) (rmR (R (b + 4)) k q)) K := by
      intro f
      induction f with
      | zero =>
        intro q hf hq
        have h3 : (up R (b + 4) (rmR (R (b + 4)) k q)) b 3 = b + 4 := by rw [up_n _ _ (by omega)]; exact hR.f3
        refine wp_iload dX4_removePaddle_32 rfl ?_
        refine wp_aload_n dX4_removePaddle_34 rfl ?_
        refine wp_getJ (v := nI (np - 1)) fX4_49 hT.t0.1 rfl (by have := hT.lt; omega) dX4_removePaddle_35 (en _ rfl) ?_
        refine wp_icN_ge (a := q) (b := (np - 1)) (tgt := 63) dX4_removePaddle_38 (by decide) rfl rfl (by omega) (by omega) (fun h38 => ?_) (fun h38 => absurd h38 (by omega))
        refine wp_aload_n dX4_removePaddle_63 rfl ?_
        refine wp_getQ fX4_31 hT.t0.1 rfl h3 (by omega) (by have := hT.lt; omega) dX4_removePaddle_64 ?_
        refine wp_aload_n dX4_removePaddle_67 rfl ?_
        refine wp_getJ (v := nI (np - 1)) fX4_49 hT.t0.1 rfl (by have := hT.lt; omega) dX4_removePaddle_68 (en _ rfl) ?_
        refine wp_aload_n dX4_removePaddle_71 rfl ?_
        refine wp_aast (i := (np - 1)) rfl (by rw [hT.t4.1]; decide) (by rw [hT.t4.2]; omega) (by rw [(hT.tp hp.1 hp.2).1, hT.t4.1]; rfl) (by have := hT.lt; omega) (by have := hT.lt; omega) dX4_removePaddle_72 ?_
        refine wp_aload_n dX4_removePaddle_73 rfl ?_
        refine wp_getJ (v := nI (np - 1)) fX4_49 hT.t0.1 rfl (by have := hT.lt; omega) dX4_removePaddle_74 (en _ rfl) ?_
        exact wp_iret dX4_removePaddle_77 rfl rfl rfl (by
          obtain rfl : q = np - 1 := by omega
          have e4 : ∀ i, (u2 (up R (b + 4) (rmR (R (b + 4)) k (np - 1))) (b + 4) (np - 1) pd) (b + 4) i = R (b + 4) (rmS np k i) := fun i => by
            rw [u2_s, up_s]
            by_cases g : i = np - 1
            · rw [g, up_s, hpd, rmS, if_neg (by omega), if_neg (by omega), if_pos rfl]
            · rw [up_n _ _ g, rmR, rmS]
              by_cases g1 : i < k
              · rw [if_neg (by omega), if_pos g1]
              · by_cases g2 : i < np - 1
                · rw [if_pos (by omega), if_neg g1, if_pos g2]
                · rw [if_neg (by omega), if_neg g1, if_neg g2, if_neg g]
          have fr : FrR b R (u2 (up R (b + 4) (rmR (R (b + 4)) k (np - 1))) (b + 4) (np - 1) pd) := fun a ha => by rw [u2_n _ _ _ ha, up_n _ _ ha]
          exact hK k hkn e1 _ _ ((FrM.rf b M).u (by omega) (by omega)) fr (hR.perm (rmS np k) (fun i hi => by unfold rmS; split <;> (try split) <;> (try split) <;> omega) (fun i j hi hj e => by unfold rmS at e; split at e <;> (try split at e) <;> (try split at e) <;> (try split at e) <;> (try split at e) <;> (try split at e) <;> omega) (fun i _ => e4 i) fr)
            ((hk.unp hR h6 (nI (np - 1))).perm (rmS np k) (fun i hi => by unfold rmS; split <;> (try split) <;> omega) (fun i _ => e4 i) (by rw [u2_s, up_s, lfF, lfN, if_neg (by omega), up_s]) (fun i hi j hj => by
              rw [lfF_at hj (by omega), up_n _ _ (by omega), rmS]
              by_cases g1 : i < k
              · rw [if_pos g1, if_pos g1]
              · rw [if_neg g1, if_neg g1, if_pos hi]) fun j h1 h2 => by rw [lfF_no h1 h2 h6, up_n _ _ h1]))
      | succ f ih =>
        intro q hf hq
        have h3 : (up R (b + 4) (rmR (R (b + 4)) k q)) b 3 = b + 4 := by rw [up_n _ _ (by omega)]; exact hR.f3
        obtain ⟨pd2, hpd2⟩ : ∃ pd2, (up R (b + 4) (rmR (R (b + 4)) k q)) (b + 4) (q + 1) = pd2 := ⟨_, rfl⟩
        have hpd3 : pd2 = R (b + 4) (q + 1) := by rw [← hpd2, up_s, rmR, if_neg (by omega)]
        have hp2 : b + 6 ≤ pd2 ∧ pd2 < b + 12 := by rw [hpd3]; exact hR.2.2.1 (q + 1) (by omega)
        refine wp_iload dX4_removePaddle_32 rfl ?_
        refine wp_aload_n dX4_removePaddle_34 rfl ?_
        refine wp_getJ (v := nI (np - 1)) fX4_49 hT.t0.1 rfl (by have := hT.lt; omega) dX4_removePaddle_35 (en _ rfl) ?_
        refine wp_icN_ge (a := q) (b := (np - 1)) (tgt := 63) dX4_removePaddle_38 (by decide) rfl rfl (by omega) (by omega) (fun h38 => absurd h38 (by omega)) (fun h38 => ?_)
        refine wp_aload_n dX4_removePaddle_41 rfl ?_
        refine wp_getQ fX4_31 hT.t0.1 rfl h3 (by omega) (by have := hT.lt; omega) dX4_removePaddle_42 ?_
        refine wp_iload dX4_removePaddle_45 rfl ?_
        refine wp_aload_n dX4_removePaddle_47 rfl ?_
        refine wp_getQ fX4_31 hT.t0.1 rfl h3 (by omega) (by have := hT.lt; omega) dX4_removePaddle_48 ?_
        refine wp_iload dX4_removePaddle_51 rfl ?_
        refine wp_iconst (v := 1) dX4_removePaddle_53 (by decide) ?_
        refine wp_iadd dX4_removePaddle_54 ?_
        refine wp_aalq (i := (q + 1)) (ix_add rfl rfl) (by rw [hT.t4.1]; decide) (by rw [hT.t4.2]; omega) (hpd2) (by omega) (by have := hT.lt; omega) dX4_removePaddle_55 ?_
        refine wp_aast (i := q) rfl (by rw [hT.t4.1]; decide) (by rw [hT.t4.2]; omega) (by rw [(hT.tp hp2.1 hp2.2).1, hT.t4.1]; rfl) (by have := hT.lt; omega) (by have := hT.lt; omega) dX4_removePaddle_56 ?_
        refine wp_iinc (v := nI (q + 1)) (L' := [some (.ref b), some (.int c), some (.int (nI k)), some (.ref pd), some (.int (nI (q + 1)))]) dX4_removePaddle_57 (by decide) rfl (inc_1 _) rfl ?_
        refine wp_goto (tgt := 32) dX4_removePaddle_60 (by decide) ?_
        rw [u2_at (up_s _ _ _), up_up, hpd3, rmR_s _ _ _ hq]
        exact ih (q + 1) (by omega) (by omega)
    have := loop (np - 1 - k) k (by omega) (Nat.le_refl _)
    rw [rmR_0, up_eta] at this
    exact this
  · refine wp_iconst (v := (-1)) dX4_removePaddle_10 (by decide) ?_
    exact wp_iret dX4_removePaddle_11 rfl rfl rfl (hE (rkC_no h6 h7))
