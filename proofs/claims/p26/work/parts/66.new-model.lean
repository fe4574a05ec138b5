/-! NEW OBJECTS: the history, the class, the model -/
theorem z0_s {α : Type} [OfNat α 0] (f : Nat → Nat → α) (n j : Nat) : z0 f n n j = 0 := by simp [z0, up]
def HwI (M0 : Mm) (R0 : Rm) (M : Mm) (R : Rm) (k : Nat) : Prop := (∀ a, (a < 32 ∨ 153 ≤ a) → M a = M0 a) ∧ (∀ a, (a < 31 ∨ 153 ≤ a) → R a = R0 a) ∧ R 31 0 = 32 ∧ (∀ i, i < k → R 32 i = 33 + 20 * i) ∧ ∀ i, i < k → RT R (33 + 20 * i)
set_option maxRecDepth 100000 in
set_option maxHeartbeats 4000000 in
theorem s_X1_init {γ : Gm} {l : Launch} {M : Mm} {R : Rm} {K : KT}  (hK : ∀ M1 R1, HwI M R M1 R1 6 → K none 153 M1 R1) : CL γ l mX1_init 3 32 153 [.ref 31] M R K := by
  show WP γ l mX1_init 3 32 153 0 [some (.ref 31), none] [] 32 M R K
  have loop : ∀ (q k n : Nat) (M1 : Mm) (R1 : Rm), q + k = 6 → n = 33 + 20 * k → HwI M R M1 R1 k → WP γ l mX1_init 3 32 153 15 [some (.ref 31), some (.int (nI k))] [] n M1 R1 K := by
    intro q
    induction q with
    | zero =>
      intro k n M1 R1 hq hn hI
      obtain rfl : k = 6 := by omega
      obtain rfl : n = 153 := by omega
      refine wp_iload_n dX1_init_15 rfl ?_
      refine wp_bipush (v := 6) dX1_init_16 (by decide) ?_
      refine wp_icN_ge (a := 6) (b := 6) (tgt := 40) dX1_init_18 (by decide) rfl rfl (by omega) (by omega) (fun _ => ?_) (fun h => absurd h (by decide))
      exact wp_vret dX1_init_40 rfl rfl (hK M1 R1 hI)
    | succ q ih =>
      intro k n M1 R1 hq hn hI
      subst hn
      have hk : k < 6 := by omega
      have hTk := Tb.hist hk
      have e0 := hI.2.2.1
      refine wp_iload_n dX1_init_15 rfl ?_
      refine wp_bipush (v := 6) dX1_init_16 (by decide) ?_
      refine wp_icN_ge (a := k) (b := 6) (tgt := 40) dX1_init_18 (by decide) rfl rfl (by omega) (by omega) (fun h18 => absurd h18 (by omega)) (fun h18 => ?_)
      refine wp_aload_n dX1_init_21 rfl ?_
      refine wp_getQ fX1_11 tA_31 rfl e0 (by decide) (by omega) dX1_init_22 ?_
      refine wp_iload_n dX1_init_25 rfl ?_
      refine wp_new (ci := 4) ⟨_, rfl, q162⟩ hTk.t0.1 (by omega) dX1_init_26 ?_
      show WP γ l mX1_init 3 32 153 29 [some (.ref 31), some (.int (nI k))] (.ref (33 + 20 * k) :: (.int (nI k)) :: .ref 32 :: []) (33 + 20 * k + 1) _ _ K
      refine wp_dup dX1_init_29 rfl ?_
      refine wp_callI (z := mX4_init) (n' := (33 + 20 * k + 20)) kX1_17 dX1_init_30 (Nat.le_of_ble_eq_true rfl) (Nat.le_of_ble_eq_true rfl) (Nat.le_of_ble_eq_true rfl) (by omega) (by omega) (s_X4_init hTk (fun j => z0_s _ _ j) (fun M2 R2 g1 g2 g3 g4 => (wp_af0 ?_)))
      refine wp_aast (i := k) rfl (by rw [tA_32]; decide) (by rw [lA_32]; omega) ((hTk.t0.1).trans (by rw [tA_32]; rfl)) (by omega) (by have := hTk.lt; omega) dX1_init_33 ?_
      refine wp_iinc (v := nI (k + 1)) (L' := [some (.ref 31), some (.int (nI (k + 1)))]) dX1_init_34 (by decide) rfl (inc_1 _) rfl ?_
      refine wp_goto (tgt := 15) dX1_init_37 (by decide) ?_
      refine ih (k + 1) _ _ _ (by omega) (by omega) ⟨fun a ha => by rw [g1 a (by omega), z0_n _ (by omega), hI.1 a ha], fun a ha => by rw [u2_n _ _ _ (by omega), g2 a (by omega), z0_n _ (by omega), hI.2.1 a ha], by rw [u2_n _ _ _ (by omega), g2 31 (by omega), z0_n _ (by omega)]; exact e0, fun i hi => ?_, fun i hi => ?_⟩
      · rw [u2_s]
        by_cases e : i = k
        · rw [e, up_s]
        · rw [up_n _ _ e, g2 32 (by omega), z0_n _ (by omega)]
          exact hI.2.2.2.1 i (by omega)
      · by_cases e : i = k
        · subst e
          exact g3.frame fun a _ _ => u2_n _ _ _ (by omega)
        · exact (hI.2.2.2.2 i (by omega)).frame fun a _ _ => by rw [u2_n _ _ _ (by omega), g2 a (by omega), z0_n _ (by omega)]
  refine wp_aload_n dX1_init_0 rfl ?_
  refine wp_objInit q161 q16 q17 (by decide) (Nat.le_of_ble_eq_true rfl) dX1_init_1 ?_
  refine wp_aload_n dX1_init_4 rfl ?_
  refine wp_bipush (v := 6) dX1_init_5 (by decide) ?_
  refine wp_nqT q162 rfl tA_32 lA_32 (by omega) (by omega) dX1_init_7 ?_
  show WP γ l mX1_init 3 32 153 10 [some (.ref 31), none] (.ref 32 :: .ref 31 :: []) 33 _ _ K
  refine wp_putR pX1_11 tA_31 rfl (fun _ => ⟨rfl, rfl⟩) (by decide) (by omega) rfl dX1_init_10 ?_
  refine wp_iconst (v := 0) dX1_init_13 (by decide) ?_
  refine wp_istore_n (L' := [some (.ref 31), some (.int _)]) dX1_init_14 (by decide) rfl ?_
  refine loop 6 0 _ _ _ rfl rfl ⟨fun a ha => z0_n _ (by omega), fun a ha => by rw [u2_n _ _ _ (by omega), z0_n _ (by omega)], by rw [u2_s, up_s], fun i hi => absurd hi (by omega), fun i hi => absurd hi (by omega)⟩
