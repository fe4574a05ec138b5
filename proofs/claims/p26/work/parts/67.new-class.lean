/-! NEW OBJECTS: the class -/
/-- the class in the making, t slots done -/
def NC (M0 : Mm) (R0 : Rm) (M : Mm) (R : Rm) (t : Nat) : Prop := (∀ a, (a < 8 ∨ 235 ≤ a) → M a = M0 a ∧ R a = R0 a) ∧ (R 8 0 = 9 ∧ R 8 1 = 29 ∧ R 8 2 = 31 ∧ R 8 3 = 153 ∧ R 8 4 = 154 ∧ R 8 5 = 155 ∧ R 8 6 = 175 ∧ R 29 0 = 30 ∧ R 31 0 = 32) ∧ (RT R 9 ∧ RT R 155 ∧ RT R 175) ∧ ((∀ i, i < 6 → R 32 i = 33 + 20 * i) ∧ ∀ k, k < 6 → RT R (33 + 20 * k)) ∧ (Tk M R 9 0 0 sg0 ∧ M 29 1 = 0 ∧ M 31 1 = 0 ∧ ∀ j, M 154 j = 0) ∧ ∀ i, i < t → R 153 i = 195 + 20 * i ∧ RT R (195 + 20 * i)
theorem NC.next {M0 M M1 : Mm} {R0 R R1 : Rm} {t : Nat} (h : NC M0 R0 M R t) (ht : t < 2) (g1 : FrM (195 + 20 * t) (z0 M (195 + 20 * t)) M1) (g2 : ∀ a, (a < 195 + 20 * t ∨ 195 + 20 * t + 20 ≤ a) → R1 a = z0 R (195 + 20 * t) a) (g3 : RT R1 (195 + 20 * t)) : NC M0 R0 M1 (u2 R1 153 t (195 + 20 * t)) (t + 1) := by
  obtain ⟨h1, ⟨a0, a1, a2, a3, a4, a5, a6, a7, a8⟩, ⟨b1, b2, b3⟩, ⟨c1, c2⟩, ⟨d1, d2, d3, d4⟩, e1⟩ := h
  have eM : ∀ a, (a < 195 + 20 * t ∨ 195 + 20 * t + 20 ≤ a) → M1 a = M a := fun a ha => by rw [g1 a ha, z0_n _ (by omega)]
  have eR : ∀ a, a ≠ 153 → (a < 195 + 20 * t ∨ 195 + 20 * t + 20 ≤ a) → (u2 R1 153 t (195 + 20 * t)) a = R a := fun a hn ha => by rw [u2_n _ _ _ hn, g2 a ha, z0_n _ (by omega)]
  have fr : ∀ b, RT R b → (b + 20 ≤ 153 ∨ (153 < b ∧ b + 20 ≤ 195 + 20 * t)) → RT (u2 R1 153 t (195 + 20 * t)) b := fun b hb hr => hb.frame fun a _ _ => eR a (by omega) (by omega)
  refine ⟨fun a ha => ⟨by rw [eM a (by omega)]; exact (h1 a ha).1, by rw [eR a (by omega) (by omega)]; exact (h1 a ha).2⟩, ?_, ⟨fr _ b1 (by omega), fr _ b2 (by omega), fr _ b3 (by omega)⟩, ⟨fun i hi => by rw [eR 32 (by omega) (by omega)]; exact c1 i hi, fun k hk => fr _ (c2 k hk) (by omega)⟩, ⟨d1.frame b1 (by omega) (by omega) fun a _ _ => ⟨eM a (by omega), eR a (by omega) (by omega)⟩, by rw [eM 29 (by omega)]; exact d2, by rw [eM 31 (by omega)]; exact d3, fun j => by rw [eM 154 (by omega)]; exact d4 j⟩, fun i hi => ?_⟩
  · rw [eR 8 (by omega) (by omega), eR 29 (by omega) (by omega), eR 31 (by omega) (by omega)]
    exact ⟨a0, a1, a2, a3, a4, a5, a6, a7, a8⟩
  · by_cases e : i = t
    · subst e
      exact ⟨by rw [u2_s, up_s], g3.frame fun a _ _ => u2_n _ _ _ (by omega)⟩
    · have := e1 i (by omega)
      exact ⟨by rw [u2_s, up_n _ _ e, g2 153 (by omega), z0_n _ (by omega)]; exact this.1, fr _ this.2 (by omega)⟩
theorem NC.done {M0 M : Mm} {R0 R : Rm} (h : NC M0 R0 M R 2) (hs S : Nat → Nat → Int32) (tx : Nat → Int32) : IC M R sg0 0 hs (fun _ => 0) S tx 0 ∧ ∀ a, (a < 8 ∨ 235 ≤ a) → M a = M0 a ∧ R a = R0 a := by
  obtain ⟨h1, ⟨a0, a1, a2, a3, a4, a5, a6, a7, a8⟩, ⟨b1, b2, b3⟩, ⟨c1, c2⟩, ⟨d1, d2, d3, d4⟩, e1⟩ := h
  refine ⟨⟨d1, ok_sg0, ⟨⟨a0, a1, a2, a3, a4, a5, a6, a7, a8, (e1 0 (by omega)).1, (e1 1 (by omega)).1⟩, b1, b2, b3, fun t ht => (e1 t ht).2, ⟨fun i hi => ⟨i, hi, c1 i hi⟩, fun i j hi hj e => by rw [c1 i hi, c1 j hj] at e; omega⟩, c2⟩, ⟨by omega, by omega⟩, ⟨d3, fun i hi => absurd hi (by omega)⟩, fun i hi => absurd hi (by omega), fun t ht => ⟨d4 t, Or.inl rfl, fun hn => absurd rfl hn⟩, d2, fun i hi => absurd hi (by omega)⟩, h1⟩
set_option maxRecDepth 100000 in
set_option maxHeartbeats 4000000 in
theorem s_X5_init {γ : Gm} {l : Launch} {M : Mm} {R : Rm} {K : KT}  (hK : ∀ M1 R1, NC M R M1 R1 2 → K none 235 M1 R1) : CL γ l mX5_init 4 9 235 [.ref 8] M R K := by
  show WP γ l mX5_init 4 9 235 0 [some (.ref 8), none] [] 9 M R K
  have loop : ∀ (q t n : Nat) (M1 : Mm) (R1 : Rm), q + t = 2 → n = 195 + 20 * t → NC M R M1 R1 t → WP γ l mX5_init 4 9 235 76 [some (.ref 8), some (.int (nI t))] [] n M1 R1 K := by
    intro q
    induction q with
    | zero =>
      intro t n M1 R1 hq hn hI
      obtain rfl : t = 2 := by omega
      obtain rfl : n = 235 := by omega
      refine wp_iload_n dX5_init_76 rfl ?_
      refine wp_iconst (v := 2) dX5_init_77 (by decide) ?_
      refine wp_icN_ge (a := 2) (b := 2) (tgt := 100) dX5_init_78 (by decide) rfl rfl (by omega) (by omega) (fun _ => ?_) (fun h => absurd h (by decide))
      exact wp_vret dX5_init_100 rfl rfl (hK M1 R1 hI)
    | succ q ih =>
      intro t n M1 R1 hq hn hI
      subst hn
      have ht : t < 2 := by omega
      have hTt := tbS ht
      have e3 := hI.2.1.2.2.2.1
      refine wp_iload_n dX5_init_76 rfl ?_
      refine wp_iconst (v := 2) dX5_init_77 (by decide) ?_
      refine wp_icN_ge (a := t) (b := 2) (tgt := 100) dX5_init_78 (by decide) rfl rfl (by omega) (by omega) (fun h78 => absurd h78 (by omega)) (fun h78 => ?_)
      refine wp_aload_n dX5_init_81 rfl ?_
      refine wp_getQ fX5_30 tA_8 rfl e3 (by decide) (by omega) dX5_init_82 ?_
      refine wp_iload_n dX5_init_85 rfl ?_
      refine wp_new (ci := 4) ⟨_, rfl, q18⟩ hTt.t0.1 (by omega) dX5_init_86 ?_
      show WP γ l mX5_init 4 9 235 89 [some (.ref 8), some (.int (nI t))] (.ref (195 + 20 * t) :: (.int (nI t)) :: .ref 153 :: []) (195 + 20 * t + 1) _ _ K
      refine wp_dup dX5_init_89 rfl ?_
      refine wp_callI (z := mX4_init) (n' := (195 + 20 * t + 20)) kX5_9 dX5_init_90 (Nat.le_of_ble_eq_true rfl) (Nat.le_of_ble_eq_true rfl) (Nat.le_of_ble_eq_true rfl) (by omega) (by omega) (s_X4_init hTt (fun j => z0_s _ _ j) (fun M2 R2 g1 g2 g3 g4 => (wp_af0 ?_)))
      refine wp_aast (i := t) rfl (by rw [tA_153]; decide) (by rw [lA_153]; omega) ((hTt.t0.1).trans (by rw [tA_153]; rfl)) (by omega) (by have := hTt.lt; omega) dX5_init_93 ?_
      refine wp_iinc (v := nI (t + 1)) (L' := [some (.ref 8), some (.int (nI (t + 1)))]) dX5_init_94 (by decide) rfl (inc_1 _) rfl ?_
      refine wp_goto (tgt := 76) dX5_init_97 (by decide) ?_
      exact ih (t + 1) _ _ _ (by omega) (by omega) (hI.next ht g1 g2 g3)
  refine wp_aload_n dX5_init_0 rfl ?_
  refine wp_objInit q15 q16 q17 (by decide) (Nat.le_of_ble_eq_true rfl) dX5_init_1 ?_
  refine wp_aload_n dX5_init_4 rfl ?_
  refine wp_new (ci := 4) ⟨_, rfl, q18⟩ tb9.t0.1 (by omega) dX5_init_5 ?_
  show WP γ l mX5_init 4 9 235 8 [some (.ref 8), none] (.ref 9 :: .ref 8 :: []) 10 _ _ K
  refine wp_dup dX5_init_8 rfl ?_
  refine wp_callI (z := mX4_init) (n' := 29) kX5_9 dX5_init_9 (Nat.le_of_ble_eq_true rfl) (Nat.le_of_ble_eq_true rfl) (Nat.le_of_ble_eq_true rfl) (by omega) (by omega) (s_X4_init tb9 (fun j => z0_s _ _ j) (fun M1 R1 a1 a2 a3 a4 => (wp_af0 ?_)))
  refine wp_putR pX5_10 tA_8 rfl (fun _ => ⟨rfl, rfl⟩) (by decide) (Nat.le_of_ble_eq_true rfl) rfl dX5_init_12 ?_
  refine wp_aload_n dX5_init_15 rfl ?_
  refine wp_new (ci := 2) ⟨_, rfl, q128⟩ tA_29 (by omega) dX5_init_16 ?_
  show WP γ l mX5_init 4 9 235 19 [some (.ref 8), none] (.ref 29 :: .ref 8 :: []) 30 _ _ K
  refine wp_dup dX5_init_19 rfl ?_
  refine wp_callIN (z := mX2_init) (n' := 31) kX5_18 dX5_init_20 (Nat.le_of_ble_eq_true rfl) (Nat.le_of_ble_eq_true rfl) (Nat.le_of_ble_eq_true rfl) (by omega) (by omega) (s_X2_init (wp_af0 ?_))
  refine wp_putR pX5_19 tA_8 rfl (fun _ => ⟨rfl, rfl⟩) (by decide) (Nat.le_of_ble_eq_true rfl) rfl dX5_init_23 ?_
  refine wp_aload_n dX5_init_26 rfl ?_
  refine wp_new (ci := 1) ⟨_, rfl, q156⟩ tA_31 (by omega) dX5_init_27 ?_
  show WP γ l mX5_init 4 9 235 30 [some (.ref 8), none] (.ref 31 :: .ref 8 :: []) 32 _ _ K
  refine wp_dup dX5_init_30 rfl ?_
  refine wp_callI (z := mX1_init) (n' := 153) kX5_25 dX5_init_31 (Nat.le_of_ble_eq_true rfl) (Nat.le_of_ble_eq_true rfl) (Nat.le_of_ble_eq_true rfl) (by omega) (by omega) (s_X1_init (fun M2 R2 hI => (wp_af0 ?_)))
  obtain ⟨i1, i2, i3, i4, i5⟩ := hI
  refine wp_putR pX5_26 tA_8 rfl (fun _ => ⟨rfl, rfl⟩) (by decide) (Nat.le_of_ble_eq_true rfl) rfl dX5_init_34 ?_
  refine wp_aload_n dX5_init_37 rfl ?_
  refine wp_iconst (v := 2) dX5_init_38 (by decide) ?_
  refine wp_nqT q18 rfl tA_153 lA_153 (by omega) (by omega) dX5_init_39 ?_
  show WP γ l mX5_init 4 9 235 42 [some (.ref 8), none] (.ref 153 :: .ref 8 :: []) 154 _ _ K
  refine wp_putR pX5_30 tA_8 rfl (fun _ => ⟨rfl, rfl⟩) (by decide) (Nat.le_of_ble_eq_true rfl) rfl dX5_init_42 ?_
  refine wp_aload_n dX5_init_45 rfl ?_
  refine wp_iconst (v := 2) dX5_init_46 (by decide) ?_
  refine wp_naz rfl tA_154 lA_154 (by omega) (by omega) dX5_init_47 ?_
  show WP γ l mX5_init 4 9 235 49 [some (.ref 8), none] (.ref 154 :: .ref 8 :: []) 155 _ _ K
  refine wp_putR pX5_34 tA_8 rfl (fun _ => ⟨rfl, rfl⟩) (by decide) (Nat.le_of_ble_eq_true rfl) rfl dX5_init_49 ?_
  refine wp_aload_n dX5_init_52 rfl ?_
  refine wp_new (ci := 4) ⟨_, rfl, q18⟩ tb155.t0.1 (by omega) dX5_init_53 ?_
  show WP γ l mX5_init 4 9 235 56 [some (.ref 8), none] (.ref 155 :: .ref 8 :: []) 156 _ _ K
  refine wp_dup dX5_init_56 rfl ?_
  refine wp_callI (z := mX4_init) (n' := 175) kX5_9 dX5_init_57 (Nat.le_of_ble_eq_true rfl) (Nat.le_of_ble_eq_true rfl) (Nat.le_of_ble_eq_true rfl) (by omega) (by omega) (s_X4_init tb155 (fun j => z0_s _ _ j) (fun M3 R3 b1 b2 b3 b4 => (wp_af0 ?_)))
  refine wp_putR pX5_38 tA_8 rfl (fun _ => ⟨rfl, rfl⟩) (by decide) (Nat.le_of_ble_eq_true rfl) rfl dX5_init_60 ?_
  refine wp_aload_n dX5_init_63 rfl ?_
  refine wp_new (ci := 4) ⟨_, rfl, q18⟩ tb175.t0.1 (by omega) dX5_init_64 ?_
  show WP γ l mX5_init 4 9 235 67 [some (.ref 8), none] (.ref 175 :: .ref 8 :: []) 176 _ _ K
  refine wp_dup dX5_init_67 rfl ?_
  refine wp_callI (z := mX4_init) (n' := 195) kX5_9 dX5_init_68 (Nat.le_of_ble_eq_true rfl) (Nat.le_of_ble_eq_true rfl) (Nat.le_of_ble_eq_true rfl) (by omega) (by omega) (s_X4_init tb175 (fun j => z0_s _ _ j) (fun M4 R4 c1 c2 c3 c4 => (wp_af0 ?_)))
  refine wp_putR pX5_41 tA_8 rfl (fun _ => ⟨rfl, rfl⟩) (by decide) (Nat.le_of_ble_eq_true rfl) rfl dX5_init_71 ?_
  refine wp_iconst (v := 0) dX5_init_74 (by decide) ?_
  refine wp_istore_n (L' := [some (.ref 8), some (.int _)]) dX5_init_75 (by decide) rfl ?_
  have f4 : ∀ a, a ≠ 8 → (a < 175 ∨ 195 ≤ a) → (u2 R4 8 6 175) a = R3 a := fun a h8 ha => by rw [u2_n _ _ _ h8, c2 a (by omega), z0_n _ (by omega), u2_n _ _ _ h8]
  have f3 : ∀ a, a ≠ 8 → (a < 153 ∨ 175 ≤ a) → R3 a = R2 a := fun a h8 ha => by rw [b2 a (by omega), z0_n _ (by omega), u2_n _ _ _ h8, z0_n _ (by omega), u2_n _ _ _ h8, z0_n _ (by omega), u2_n _ _ _ h8]
  have f2 : ∀ a, a ≠ 8 → (a < 29 ∨ 153 ≤ a) → R2 a = R1 a := fun a h8 ha => by rw [i2 a (by omega), z0_n _ (by omega), u2_n _ _ _ h8, u2_n _ _ _ (by omega), z0_n _ (by omega), z0_n _ (by omega), u2_n _ _ _ h8]
  have m4 : ∀ a, (a < 175 ∨ 195 ≤ a) → M4 a = M3 a := fun a ha => by rw [c1 a (by omega), z0_n _ (by omega)]
  have m3 : ∀ a, (a < 153 ∨ 175 ≤ a) → M3 a = M2 a := fun a ha => by rw [b1 a (by omega), z0_n _ (by omega), z0_n _ (by omega), z0_n _ (by omega)]
  have m2 : ∀ a, (a < 29 ∨ 153 ≤ a) → M2 a = M1 a := fun a ha => by rw [i1 a (by omega), z0_n _ (by omega), z0_n _ (by omega), z0_n _ (by omega)]
  have e8 : (u2 R4 8 6 175) 8 = up (up (up (up (up (up (up (R1 8) 0 9) 1 29) 2 31) 3 153) 4 154) 5 155) 6 175 := by
    rw [u2_s, c2 8 (by omega), z0_n _ (by omega), u2_s, b2 8 (by omega), z0_n _ (by omega), u2_s, z0_n _ (by omega), u2_s, z0_n _ (by omega), u2_s, i2 8 (by omega), z0_n _ (by omega), u2_s, u2_n _ _ _ (by omega), z0_n _ (by omega), z0_n _ (by omega), u2_s]
  have e29 : (u2 R4 8 6 175) 29 0 = 30 := by rw [f4 29 (by omega) (by omega), f3 29 (by omega) (by omega), i2 29 (by omega), z0_n _ (by omega), u2_n _ _ _ (by omega), u2_s, up_s]
  have e31 : (u2 R4 8 6 175) 31 0 = 32 := by rw [f4 31 (by omega) (by omega), f3 31 (by omega) (by omega)]; exact i3
  refine loop 2 0 _ _ _ rfl rfl ⟨fun a ha => ⟨by rw [m4 a (by omega), m3 a (by omega), m2 a (by omega), a1 a (by omega), z0_n _ (by omega)], by rw [f4 a (by omega) (by omega), f3 a (by omega) (by omega), f2 a (by omega) (by omega), a2 a (by omega), z0_n _ (by omega)]⟩, ⟨?_, ?_, ?_, ?_, ?_, ?_, ?_, e29, e31⟩, ⟨a3.frame fun a _ _ => by rw [f4 a (by omega) (by omega), f3 a (by omega) (by omega), f2 a (by omega) (by omega)], b3.frame fun a _ _ => f4 a (by omega) (by omega), c3.frame fun a _ _ => u2_n _ _ _ (by omega)⟩, ⟨fun i hi => by rw [f4 32 (by omega) (by omega), f3 32 (by omega) (by omega)]; exact i4 i hi, fun k hk => (i5 k hk).frame fun a _ _ => by rw [f4 a (by omega) (by omega), f3 a (by omega) (by omega)]⟩, ⟨a4.frame a3 (by omega) (by omega) fun a _ _ => ⟨by rw [m4 a (by omega), m3 a (by omega), m2 a (by omega)], by rw [f4 a (by omega) (by omega), f3 a (by omega) (by omega), f2 a (by omega) (by omega)]⟩, ?_, ?_, fun j => ?_⟩, fun i hi => absurd hi (by omega)⟩
  · rw [e8]
    simp [up]
  · rw [e8]
    simp [up]
  · rw [e8]
    simp [up]
  · rw [e8]
    simp [up]
  · rw [e8]
    simp [up]
  · rw [e8]
    simp [up]
  · rw [e8]
    simp [up]
  · rw [m4 29 (by omega), m3 29 (by omega), i1 29 (by omega), z0_n _ (by omega), z0_n _ (by omega), z0_s]
  · rw [m4 31 (by omega), m3 31 (by omega), i1 31 (by omega), z0_s]
  · rw [m4 154 (by omega), b1 154 (by omega), z0_n _ (by omega), z0_s]
