/-! THE CLASS: a state put into its history and taken out -/
theorem OkS.p6 {sg : Nat → Int32} (h : OkS sg) : nP sg ≤ 6 := h.1.1.2
theorem OkS.g4 {sg : Nat → Int32} (h : OkS sg) : nG sg ≤ 4 := h.1.2.1.2
theorem RH.rt {R : Rm} (hH : RH R) (hG : ∀ k, k < 6 → RT R (33 + 20 * k)) {i : Nat} (hi : i < 6) : RT R (R 32 i) := by
  obtain ⟨k, hk, e⟩ := hH.1 i hi
  rw [e]
  exact hG k hk
set_option maxRecDepth 100000 in
set_option maxHeartbeats 4000000 in
theorem s_X1_push {γ : Gm} {l : Launch} {M : Mm} {R : Rm} {K : KT} {c rc : Nat} {hs : Nat → Nat → Int32} {sg : Nat → Int32} (h0 : R 31 0 = 32) (hH : RH R) (hG : ∀ k, k < 6 → RT R (33 + 20 * k)) (hI : HI M R rc hs) (h6 : rc ≤ 6) (hO : ∀ i, i < rc → OkS (hs i)) (hT : Tb c) (hc : c + 20 ≤ 31 ∨ 153 ≤ c) (hQ : RT R c) (hk : Tk M R c (nP sg) (nG sg) sg) (ho : OkS sg) (hK : ∀ M1 R1, (∀ a, a ≠ 31 → (a < 33 ∨ 153 ≤ a) → M1 a = M a) → (∀ a, a ≠ 32 → R1 a = R a) → RH R1 → HI M1 R1 (rcN rc) (pshH rc hs sg) → K none 247 M1 R1) : CL γ l mX1_push 3 247 247 [.ref 31, .ref c] M R K := by
  show WP γ l mX1_push 3 247 247 0 [some (.ref 31), some (.ref c)] [] 247 M R K
  have fin : ∀ (M1 : Mm) (R1 : Rm) (q : Nat) (f : Nat → Nat → Int32), RH R1 → (∀ a, a ≠ 32 → R1 a = R a) → (∀ a, a ≠ 31 → M1 a = M a) → M1 31 1 = nI q → q < 6 → (∀ i, i < q → OkS (f i) ∧ Tk M1 R1 (R1 32 i) (nP (f i)) (nG (f i)) (f i)) → rcN rc = q + 1 → (pshH rc hs sg = fun i => if i = q then sg else f i) → WP γ l mX1_push 3 247 247 13 [some (.ref 31), some (.ref c)] [] 247 M1 R1 K := by
    intro M1 R1 q f g1 g2 g3 g4 g5 g6 g7 g8
    obtain ⟨b, hb⟩ : ∃ b, b = R1 32 q := ⟨_, rfl⟩
    have hU : Tb b := by rw [hb]; exact g1.tb g5
    have hr := g1.rng g5
    rw [← hb] at hr
    have hG1 : ∀ k, k < 6 → RT R1 (33 + 20 * k) := fun k hk => (hG k hk).frame fun a h1 h2 => g2 a (by omega)
    have hV : RT R1 b := by rw [hb]; exact g1.rt hG1 g5
    have hQ1 : RT R1 c := hQ.frame fun a h1 h2 => g2 a (by omega)
    have hk1 : Tk M1 R1 c (nP sg) (nG sg) sg := hk.frame hQ ho.p6 ho.g4 fun a h1 h2 => ⟨g3 a (by omega), g2 a (by omega)⟩
    refine wp_aload_n dX1_push_13 rfl ?_
    refine wp_getQ fX1_11 tA_31 rfl ((congrFun (g2 31 (by omega)) 0).trans h0) (by decide) (Nat.le_of_ble_eq_true rfl) dX1_push_14 ?_
    refine wp_aload_n dX1_push_17 rfl ?_
    refine wp_getJ (v := nI q) fX1_18 tA_31 rfl (Nat.le_of_ble_eq_true rfl) dX1_push_18 (g4) ?_
    refine wp_aalq (i := q) rfl (by rw [tA_32]; decide) (by rw [lA_32]; omega) (hb.symm) (by omega) (Nat.le_of_ble_eq_true rfl) dX1_push_21 ?_
    refine wp_aload_n dX1_push_22 rfl ?_
    refine wp_cV1 (z := mX4_copyFrom) (n' := 247) kX1_25 dX1_push_23 (Nat.le_of_ble_eq_true rfl) (Nat.le_of_ble_eq_true rfl) hU.t0.1 (by have := hU.lt; omega) (Nat.le_of_ble_eq_true rfl) (Nat.le_refl _) (Nat.le_refl _) (s_X4_copyFrom hU hV hT hQ1 (by omega) hk1 ho.1 (fun M2 g9 g10 => (wp_af0 ?_)))
    refine wp_aload_n dX1_push_26 rfl ?_
    refine wp_dup dX1_push_27 rfl ?_
    refine wp_getJ (v := nI q) fX1_18 tA_31 rfl (Nat.le_of_ble_eq_true rfl) dX1_push_28 (by rw [g9 31 (by omega)]; exact g4) ?_
    refine wp_iconst (v := 1) dX1_push_31 (by decide) ?_
    refine wp_iadd dX1_push_32 ?_
    refine wp_putI pX1_18 tA_31 rfl ⟨rfl, rfl⟩ (Nat.le_of_ble_eq_true rfl) dX1_push_33 ?_
    exact wp_vret dX1_push_36 rfl rfl (by
      have e31 : M2 31 = M1 31 := g9 31 (by omega)
      refine hK _ _ (fun a h1 h2 => by rw [u2_n _ _ _ h1, g9 a (by omega), g3 a h1]) g2 g1 ⟨by rw [u2_s, up_s, g7]; exact inc_1 q, fun i hi => ?_⟩
      rw [g7] at hi
      have hb2 := (g1.rng (i := i) (by omega))
      by_cases e : i = q
      · rw [g8]
        simp only [e, if_true]
        rw [← hb]
        exact g10.frame hV ho.p6 ho.g4 fun a h1 h2 => ⟨u2_n _ _ _ (by omega), rfl⟩
      · rw [g8]
        simp only [if_neg e]
        have far := g1.far (i := i) (j := q) (by omega) g5 e
        rw [← hb] at far
        exact (g6 i (by omega)).2.frame (g1.rt hG1 (by omega)) (g6 i (by omega)).1.p6 (g6 i (by omega)).1.g4 fun a h1 h2 => ⟨by rw [u2_n _ _ _ (by omega), g9 a (by omega)], rfl⟩)
  refine wp_aload_n dX1_push_0 rfl ?_
  refine wp_getJ (v := nI rc) fX1_18 tA_31 rfl (Nat.le_of_ble_eq_true rfl) dX1_push_1 (hI.1) ?_
  refine wp_bipush (v := 6) dX1_push_4 (by decide) ?_
  refine wp_icN_lt (a := rc) (b := 6) (tgt := 13) dX1_push_6 (by decide) rfl rfl (by omega) (by omega) (fun h6 => ?_) (fun h6 => ?_)
  · exact fin M R rc hs hH (fun _ _ => rfl) (fun _ _ => rfl) hI.1 (by omega) (fun i hi => ⟨hO i hi, hI.2 i hi⟩) (if_neg (by omega)) (by
        have : ¬ rc = 6 := by omega
        unfold pshH
        simp only [if_neg this])
  · refine wp_aload_n dX1_push_9 rfl ?_
    refine wp_cV0 (z := mX1_dropOldest) (n' := 247) kX1_22 dX1_push_10 (Nat.le_of_ble_eq_true rfl) (Nat.le_of_ble_eq_true rfl) tA_31 (Nat.le_of_ble_eq_true rfl) (Nat.le_of_ble_eq_true rfl) (Nat.le_refl _) (Nat.le_refl _) (s_X1_dropOldest h0 hH (wp_af0 ?_))
    obtain rfl : rc = 6 := by omega
    have hR1 : RH (up R 32 (rot (R 32))) := hH.rots (up_s _ _ _)
    refine fin _ _ 5 (fun i => hs (i + 1)) hR1 (fun a ha => up_n _ _ ha) (fun a ha => u2_n _ _ _ ha) (by rw [u2_s, up_s]) (by omega) (fun i hi => ⟨hO (i + 1) (by omega), ?_⟩) rfl rfl
    have e : (up R 32 (rot (R 32))) 32 i = R 32 (i + 1) := by rw [up_s, rot, if_neg (by omega), if_pos (by omega)]
    have hr := hH.rng (i := i + 1) (by omega)
    rw [e]
    exact (hI.2 (i + 1) (by omega)).frame (hH.rt hG (by omega)) (hO (i + 1) (by omega)).p6 (hO (i + 1) (by omega)).g4 fun a h1 h2 => ⟨u2_n _ _ _ (by omega), up_n _ _ (by omega)⟩
