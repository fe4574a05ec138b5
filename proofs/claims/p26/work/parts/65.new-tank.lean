/-! NEW OBJECTS: a tank -/
theorem n_9 : Cond.fieldLinkNest RX4 9 RX5 (stN 1) "[I" RX5 ∈ NW := List.mem_filter.mpr ⟨List.mem_of_getElem? (i := 24) (by decide +kernel), by decide +kernel⟩
theorem n_cl : Cond.castable "[I" "java/lang/Cloneable" ∈ NW := List.mem_filter.mpr ⟨List.mem_of_getElem? (i := 31) (by decide +kernel), by decide +kernel⟩
theorem z0_n {α : Type} [OfNat α 0] (f : Nat → Nat → α) {n j : Nat} (h : j ≠ n) : z0 f n j = f j := up_n _ _ h
/-- a tank at b in the making: k paddles, g gauges -/
def NwI (M0 : Mm) (R0 : Rm) (M : Mm) (R : Rm) (b k g : Nat) : Prop := (∀ a, (a < b ∨ b + 20 ≤ a) → M a = M0 a ∧ R a = R0 a) ∧ (R b 0 = b + 1 ∧ R b 1 = b + 2 ∧ R b 2 = b + 3 ∧ R b 3 = b + 4 ∧ R b 4 = b + 5) ∧ ((∀ j, M b j = 0) ∧ (∀ j, M (b + 1) j = stV 1 j) ∧ (∀ j, M (b + 2) j = 0) ∧ (∀ j, M (b + 3) j = 0)) ∧ (∀ i, i < k → R (b + 4) i = b + 6 + i) ∧ ∀ i, i < g → R (b + 5) i = b + 12 + 2 * i ∧ R (b + 12 + 2 * i) 0 = b + 13 + 2 * i
theorem NwI.pd {M0 M : Mm} {R0 R : Rm} {b k : Nat} (h : NwI M0 R0 M R b k 0) (hk : k < 6) : NwI M0 R0 (u2 (z0 M (b + 6 + k)) (b + 6 + k) 3 1) (u2 (z0 R (b + 6 + k)) (b + 4) k (b + 6 + k)) b (k + 1) 0 := by
  obtain ⟨h1, ⟨a0, a1, a2, a3, a4⟩, ⟨m0, m1, m2, m3⟩, h4, -⟩ := h
  have eM : ∀ a, a ≠ b + 6 + k → (u2 (z0 M (b + 6 + k)) (b + 6 + k) 3 1) a = M a := fun a ha => by rw [u2_n _ _ _ ha, z0_n _ ha]
  have eR : ∀ a, a ≠ b + 6 + k → a ≠ b + 4 → (u2 (z0 R (b + 6 + k)) (b + 4) k (b + 6 + k)) a = R a := fun a ha hb => by rw [u2_n _ _ _ hb, z0_n _ ha]
  refine ⟨fun a ha => ⟨by rw [eM a (by omega)]; exact (h1 a ha).1, by rw [eR a (by omega) (by omega)]; exact (h1 a ha).2⟩, ⟨by rw [eR b (by omega) (by omega)]; exact a0, by rw [eR b (by omega) (by omega)]; exact a1, by rw [eR b (by omega) (by omega)]; exact a2, by rw [eR b (by omega) (by omega)]; exact a3, by rw [eR b (by omega) (by omega)]; exact a4⟩, ⟨fun j => by rw [eM b (by omega)]; exact m0 j, fun j => by rw [eM _ (by omega)]; exact m1 j, fun j => by rw [eM _ (by omega)]; exact m2 j, fun j => by rw [eM _ (by omega)]; exact m3 j⟩, fun i hi => ?_, fun i hi => absurd hi (by omega)⟩
  rw [u2_s]
  by_cases e : i = k
  · rw [e, up_s]
  · rw [up_n _ _ e, z0_n _ (by omega)]
    exact h4 i (by omega)
theorem NwI.gg {M0 M : Mm} {R0 R : Rm} {b g a : Nat} (h : NwI M0 R0 M R b 6 g) (hg : g < 4) (ea : a = b + 12 + 2 * g) : NwI M0 R0 (z0 (z0 M a) (a + 1)) (u2 (u2 (z0 (z0 R a) (a + 1)) a 0 (a + 1)) (b + 5) g a) b 6 (g + 1) := by
  obtain ⟨h1, ⟨a0, a1, a2, a3, a4⟩, ⟨m0, m1, m2, m3⟩, h4, h5⟩ := h
  have eM : ∀ q, q ≠ a → q ≠ a + 1 → (z0 (z0 M a) (a + 1)) q = M q := fun q ha hb => by rw [z0_n _ hb, z0_n _ ha]
  have eR : ∀ q, q ≠ a → q ≠ a + 1 → q ≠ b + 5 → (u2 (u2 (z0 (z0 R a) (a + 1)) a 0 (a + 1)) (b + 5) g a) q = R q := fun q ha hb hc => by rw [u2_n _ _ _ hc, u2_n _ _ _ ha, z0_n _ hb, z0_n _ ha]
  refine ⟨fun q hq => ⟨by rw [eM q (by omega) (by omega)]; exact (h1 q hq).1, by rw [eR q (by omega) (by omega) (by omega)]; exact (h1 q hq).2⟩, ⟨by rw [eR b (by omega) (by omega) (by omega)]; exact a0, by rw [eR b (by omega) (by omega) (by omega)]; exact a1, by rw [eR b (by omega) (by omega) (by omega)]; exact a2, by rw [eR b (by omega) (by omega) (by omega)]; exact a3, by rw [eR b (by omega) (by omega) (by omega)]; exact a4⟩, ⟨fun j => by rw [eM b (by omega) (by omega)]; exact m0 j, fun j => by rw [eM _ (by omega) (by omega)]; exact m1 j, fun j => by rw [eM _ (by omega) (by omega)]; exact m2 j, fun j => by rw [eM _ (by omega) (by omega)]; exact m3 j⟩, fun i hi => by rw [eR _ (by omega) (by omega) (by omega)]; exact h4 i hi, fun i hi => ?_⟩
  by_cases e : i = g
  · subst e
    refine ⟨?_, ?_⟩
    · rw [u2_s, up_s]
      exact ea
    · rw [← ea, u2_n _ _ _ (by omega), u2_s, up_s]
      omega
  · have := h5 i (by omega)
    refine ⟨?_, ?_⟩
    · rw [u2_s, up_n _ _ e, u2_n _ _ _ (by omega), z0_n _ (by omega), z0_n _ (by omega)]
      exact this.1
    · rw [eR _ (by omega) (by omega) (by omega)]
      exact this.2
/-- the first state -/
def sg0 : Nat → Int32 := fun j => if j = 0 then 80 else if j = 1 then 2 else if j = 2 then 500 else 0
theorem NwI.done {M0 M : Mm} {R0 R : Rm} {b : Nat} (h : NwI M0 R0 M R b 6 4) : FrM b M0 M ∧ (∀ a, (a < b ∨ b + 20 ≤ a) → R a = R0 a) ∧ RT R b ∧ Tk M R b 0 0 sg0 := by
  obtain ⟨h1, h2, ⟨m0, m1, m2, m3⟩, h4, h5⟩ := h
  refine ⟨fun a ha => (h1 a ha).1, fun a ha => (h1 a ha).2, ⟨h2, h5, fun k hk => by rw [h4 k hk]; omega, fun i j hi hj e => by rw [h4 i hi, h4 j hj] at e; omega⟩, fun i hi => ?_, ⟨m0 7, m0 5, m0 6⟩, fun c hc => ?_, fun c hc => ?_, fun k hk => absurd hk (by omega), fun g hg => absurd hg (by omega)⟩
  · rw [m1 i]
    rcases (by omega : i = 0 ∨ i = 1 ∨ i = 2) with e | e | e <;> subst e <;> rfl
  · rw [m2 c, sg0, if_neg (by omega), if_neg (by omega), if_neg (by omega)]
  · rw [m3 c, sg0, if_neg (by omega), if_neg (by omega), if_neg (by omega)]
theorem ok_sg0 : OkS sg0 := by
  have o : Ok0 sg0 0 0 := ⟨⟨rfl, by omega⟩, ⟨rfl, by omega⟩, fun k hk => absurd hk (by omega), fun i j _ hj => absurd hj (by omega), fun g hg => absurd hg (by omega), by unfold StOk; decide⟩
  refine OkS.of o fun c hc => ?_
  rw [sg0, if_neg (by omega), if_neg (by omega), if_neg (by omega), sg0, if_neg (by omega), if_neg (by omega), if_neg (by omega)]
  unfold bd
  decide
set_option maxRecDepth 100000 in
set_option maxHeartbeats 4000000 in
theorem s_X4_init {γ : Gm} {l : Launch} {M : Mm} {R : Rm} {K : KT} {b : Nat}  (hT : Tb b) (h0 : ∀ j, M b j = 0) (hK : ∀ M1 R1, FrM b M M1 → (∀ a, (a < b ∨ b + 20 ≤ a) → R1 a = R a) → RT R1 b → Tk M1 R1 b 0 0 sg0 → K none (b + 20) M1 R1) : CL γ l mX4_init 2 (b + 1) (b + 20) [.ref b] M R K := by
  show WP γ l mX4_init 2 (b + 1) (b + 20) 0 [some (.ref b), none] [] (b + 1) M R K
  have hlt := hT.lt
  have loop2 : ∀ (q g n : Nat) (M1 : Mm) (R1 : Rm), q + g = 4 → n = b + 12 + 2 * g → NwI M R M1 R1 b 6 g → WP γ l mX4_init 2 (b + 1) (b + 20) 79 [some (.ref b), some (.int (nI g))] [] n M1 R1 K := by
    intro q
    induction q with
    | zero =>
      intro g n M1 R1 hq hn hI
      obtain rfl : g = 4 := by omega
      obtain rfl : n = b + 20 := by omega
      obtain ⟨d1, d2, d3, d4⟩ := hI.done
      refine wp_iload_n dX4_init_79 rfl ?_
      refine wp_iconst (v := 4) dX4_init_80 (by decide) ?_
      refine wp_icN_ge (a := 4) (b := 4) (tgt := 103) dX4_init_81 (by decide) rfl rfl (by omega) (by omega) (fun _ => ?_) (fun h => absurd h (by decide))
      exact wp_vret dX4_init_103 rfl rfl (hK M1 R1 d1 d2 d3 d4)
    | succ q ih =>
      intro g n M1 R1 hq hn hI
      subst hn
      have hg : g < 4 := by omega
      have e4 := hI.2.1.2.2.2.2
      refine wp_iload_n dX4_init_79 rfl ?_
      refine wp_iconst (v := 4) dX4_init_80 (by decide) ?_
      refine wp_icN_ge (a := g) (b := 4) (tgt := 103) dX4_init_81 (by decide) rfl rfl (by omega) (by omega) (fun h81 => absurd h81 (by omega)) (fun h81 => ?_)
      refine wp_aload_n dX4_init_84 rfl ?_
      refine wp_getQ fX4_37 hT.t0.1 rfl e4 (by omega) (by have := hT.lt; omega) dX4_init_85 ?_
      refine wp_iload_n dX4_init_88 rfl ?_
      refine wp_new (ci := 0) ⟨_, rfl, q35⟩ ((hT.tg0 hg).1) (by omega) dX4_init_89 ?_
      show WP γ l mX4_init 2 (b + 1) (b + 20) 92 [some (.ref b), some (.int (nI g))] (.ref (b + 12 + 2 * g) :: (.int (nI g)) :: .ref (b + 5) :: []) (b + 12 + 2 * g + 1) _ _ K
      refine wp_dup dX4_init_92 rfl ?_
      refine wp_callIN (z := mX0_init) (n' := (b + 12 + 2 * g + 2)) kX4_42 dX4_init_93 (Nat.le_of_ble_eq_true rfl) (Nat.le_of_ble_eq_true rfl) (Nat.le_of_ble_eq_true rfl) (by omega) (by omega) (s_X0_init (by omega) (hT.tg0 hg).1 (by rw [show b + 12 + 2 * g + 1 = b + 13 + 2 * g by omega]; exact (hT.tg1 hg).1) (by rw [show b + 12 + 2 * g + 1 = b + 13 + 2 * g by omega]; exact (hT.tg1 hg).2) (wp_af0 ?_))
      refine wp_aast (i := g) rfl (by rw [hT.t5.1]; decide) (by rw [hT.t5.2]; omega) (((hT.tg0 hg).1).trans (by rw [hT.t5.1]; rfl)) (by have := hT.lt; omega) (by have := hT.lt; omega) dX4_init_96 ?_
      refine wp_iinc (v := nI (g + 1)) (L' := [some (.ref b), some (.int (nI (g + 1)))]) dX4_init_97 (by decide) rfl (inc_1 _) rfl ?_
      refine wp_goto (tgt := 79) dX4_init_100 (by decide) ?_
      exact ih (g + 1) _ _ _ (by omega) (by omega) (hI.gg hg rfl)
  have loop1 : ∀ (q k n : Nat) (M1 : Mm) (R1 : Rm), q + k = 6 → n = b + 6 + k → NwI M R M1 R1 b k 0 → WP γ l mX4_init 2 (b + 1) (b + 20) 52 [some (.ref b), some (.int (nI k))] [] n M1 R1 K := by
    intro q
    induction q with
    | zero =>
      intro k n M1 R1 hq hn hI
      obtain rfl : k = 6 := by omega
      obtain rfl : n = b + 12 := by omega
      refine wp_iload_n dX4_init_52 rfl ?_
      refine wp_bipush (v := 6) dX4_init_53 (by decide) ?_
      refine wp_icN_ge (a := 6) (b := 6) (tgt := 77) dX4_init_55 (by decide) rfl rfl (by omega) (by omega) (fun _ => ?_) (fun h => absurd h (by decide))
      refine wp_iconst (v := 0) dX4_init_77 (by decide) ?_
      refine wp_istore_n (L' := [some (.ref b), some (.int _)]) dX4_init_78 (by decide) rfl ?_
      exact loop2 4 0 _ _ _ rfl rfl hI
    | succ q ih =>
      intro k n M1 R1 hq hn hI
      subst hn
      have hk : k < 6 := by omega
      have hp : b + 6 ≤ b + 6 + k ∧ b + 6 + k < b + 12 := by omega
      have e3 := hI.2.1.2.2.2.1
      refine wp_iload_n dX4_init_52 rfl ?_
      refine wp_bipush (v := 6) dX4_init_53 (by decide) ?_
      refine wp_icN_ge (a := k) (b := 6) (tgt := 77) dX4_init_55 (by decide) rfl rfl (by omega) (by omega) (fun h55 => absurd h55 (by omega)) (fun h55 => ?_)
      refine wp_aload_n dX4_init_58 rfl ?_
      refine wp_getQ fX4_31 hT.t0.1 rfl e3 (by omega) (by have := hT.lt; omega) dX4_init_59 ?_
      refine wp_iload_n dX4_init_62 rfl ?_
      refine wp_new (ci := 3) ⟨_, rfl, q33⟩ ((hT.tp hp.1 hp.2).1) (by omega) dX4_init_63 ?_
      show WP γ l mX4_init 2 (b + 1) (b + 20) 66 [some (.ref b), some (.int (nI k))] (.ref (b + 6 + k) :: (.int (nI k)) :: .ref (b + 4) :: []) (b + 6 + k + 1) _ _ K
      refine wp_dup dX4_init_66 rfl ?_
      refine wp_callIN (z := mX3_init) (n' := (b + 6 + k + 1)) kX4_41 dX4_init_67 (Nat.le_of_ble_eq_true rfl) (Nat.le_of_ble_eq_true rfl) (Nat.le_of_ble_eq_true rfl) (by omega) (by omega) (s_X3_init (hT.tp hp.1 hp.2).1 (by omega) (by omega) (wp_af0 ?_))
      refine wp_aast (i := k) rfl (by rw [hT.t4.1]; decide) (by rw [hT.t4.2]; omega) (((hT.tp hp.1 hp.2).1).trans (by rw [hT.t4.1]; rfl)) (by have := hT.lt; omega) (by have := hT.lt; omega) dX4_init_70 ?_
      refine wp_iinc (v := nI (k + 1)) (L' := [some (.ref b), some (.int (nI (k + 1)))]) dX4_init_71 (by decide) rfl (inc_1 _) rfl ?_
      refine wp_goto (tgt := 52) dX4_init_74 (by decide) ?_
      exact ih (k + 1) _ _ _ (by omega) (by omega) (hI.pd hk)
  refine wp_aload_n dX4_init_0 rfl ?_
  refine wp_objInit q23 q16 q17 (by decide) (Nat.le_of_ble_eq_true rfl) dX4_init_1 ?_
  refine wp_aload_n dX4_init_4 rfl ?_
  refine wp_getst (k := 1) (by decide) (by decide) n_9 dX4_init_5 ?_
  refine wp_clone q26 q27 q28 q29 q30 n_cl hT.t1.1 hT.t1.2 (by omega) (by omega) (by decide) (Nat.le_of_ble_eq_true rfl) dX4_init_8 ?_
  show WP γ l mX4_init 2 (b + 1) (b + 20) 11 [some (.ref b), none] (.ref (b + 1) :: .ref b :: []) (b + 2) _ _ K
  refine wp_castI q32 hT.t1.1 (by omega) (by omega) dX4_init_11 ?_
  refine wp_putR pX4_18 hT.t0.1 rfl (fun _ => ⟨rfl, rfl⟩) (by omega) (by have := hT.lt; omega) rfl dX4_init_14 ?_
  refine wp_aload_n dX4_init_17 rfl ?_
  refine wp_bipush (v := 40) dX4_init_18 (by decide) ?_
  refine wp_nai rfl hT.t2.1 hT.t2.2 (by omega) (by omega) dX4_init_20 ?_
  show WP γ l mX4_init 2 (b + 1) (b + 20) 22 [some (.ref b), none] (.ref (b + 2) :: .ref b :: []) (b + 3) _ _ K
  refine wp_putR pX4_23 hT.t0.1 rfl (fun _ => ⟨rfl, rfl⟩) (by omega) (by have := hT.lt; omega) rfl dX4_init_22 ?_
  refine wp_aload_n dX4_init_25 rfl ?_
  refine wp_bipush (v := 40) dX4_init_26 (by decide) ?_
  refine wp_nai rfl hT.t3.1 hT.t3.2 (by omega) (by omega) dX4_init_28 ?_
  show WP γ l mX4_init 2 (b + 1) (b + 20) 30 [some (.ref b), none] (.ref (b + 3) :: .ref b :: []) (b + 4) _ _ K
  refine wp_putR pX4_26 hT.t0.1 rfl (fun _ => ⟨rfl, rfl⟩) (by omega) (by have := hT.lt; omega) rfl dX4_init_30 ?_
  refine wp_aload_n dX4_init_33 rfl ?_
  refine wp_bipush (v := 6) dX4_init_34 (by decide) ?_
  refine wp_nqP q33 rfl hT.t4.1 hT.t4.2 (by omega) (by omega) dX4_init_36 ?_
  show WP γ l mX4_init 2 (b + 1) (b + 20) 39 [some (.ref b), none] (.ref (b + 4) :: .ref b :: []) (b + 5) _ _ K
  refine wp_putR pX4_31 hT.t0.1 rfl (fun _ => ⟨rfl, rfl⟩) (by omega) (by have := hT.lt; omega) rfl dX4_init_39 ?_
  refine wp_aload_n dX4_init_42 rfl ?_
  refine wp_iconst (v := 4) dX4_init_43 (by decide) ?_
  refine wp_nqG q35 rfl hT.t5.1 hT.t5.2 (by omega) (by omega) dX4_init_44 ?_
  show WP γ l mX4_init 2 (b + 1) (b + 20) 47 [some (.ref b), none] (.ref (b + 5) :: .ref b :: []) (b + 6) _ _ K
  refine wp_putR pX4_37 hT.t0.1 rfl (fun _ => ⟨rfl, rfl⟩) (by omega) (by have := hT.lt; omega) rfl dX4_init_47 ?_
  refine wp_iconst (v := 0) dX4_init_50 (by decide) ?_
  refine wp_istore_n (L' := [some (.ref b), some (.int _)]) dX4_init_51 (by decide) rfl ?_
  refine loop1 6 0 _ _ _ rfl rfl ⟨fun a ha => ⟨?_, ?_⟩, ⟨?_, ?_, ?_, ?_, ?_⟩, ⟨fun j => ?_, fun j => ?_, fun j => ?_, fun j => ?_⟩, fun i hi => absurd hi (by omega), fun i hi => absurd hi (by omega)⟩
  · simp only [u2, z0, up]
    repeat first
      | rw [if_neg (by omega)]
      | rw [if_pos (by omega)]
  · simp only [u2, z0, up]
    repeat first
      | rw [if_neg (by omega)]
      | rw [if_pos (by omega)]
  · simp only [u2_s, z0_n _ (show b ≠ b + 1 by omega), z0_n _ (show b ≠ b + 2 by omega), z0_n _ (show b ≠ b + 3 by omega), z0_n _ (show b ≠ b + 4 by omega), z0_n _ (show b ≠ b + 5 by omega)]
    simp [up]
  · simp only [u2_s, z0_n _ (show b ≠ b + 1 by omega), z0_n _ (show b ≠ b + 2 by omega), z0_n _ (show b ≠ b + 3 by omega), z0_n _ (show b ≠ b + 4 by omega), z0_n _ (show b ≠ b + 5 by omega)]
    simp [up]
  · simp only [u2_s, z0_n _ (show b ≠ b + 1 by omega), z0_n _ (show b ≠ b + 2 by omega), z0_n _ (show b ≠ b + 3 by omega), z0_n _ (show b ≠ b + 4 by omega), z0_n _ (show b ≠ b + 5 by omega)]
    simp [up]
  · simp only [u2_s, z0_n _ (show b ≠ b + 1 by omega), z0_n _ (show b ≠ b + 2 by omega), z0_n _ (show b ≠ b + 3 by omega), z0_n _ (show b ≠ b + 4 by omega), z0_n _ (show b ≠ b + 5 by omega)]
    simp [up]
  · simp only [u2_s, z0_n _ (show b ≠ b + 1 by omega), z0_n _ (show b ≠ b + 2 by omega), z0_n _ (show b ≠ b + 3 by omega), z0_n _ (show b ≠ b + 4 by omega), z0_n _ (show b ≠ b + 5 by omega)]
    simp [up]
  · simp only [u2, z0, up]
    repeat rw [if_neg (by omega)]
    exact h0 _
  · simp [z0, up]
  · simp [z0, up]
  · simp [z0, up]
