/-! THE CLASS: the reading of orders, and the fault of a text -/
/-- what the pad's numbers say of an order read -/
def OD (x : Option (Nat × Nat × Nat × Int32 × Nat × Nat)) (k t s v p f : Int32) : Prop := ∀ k2 t2 s2 v2 p2 f2, x = some (k2, t2, s2, v2, p2, f2) → k = nI k2 ∧ t = nI t2 ∧ (k2 = 112 → s = nI s2 ∧ v = v2 ∧ p = nI p2 ∧ f = nI f2) ∧ (k2 = 108 → v = v2)
set_option maxRecDepth 100000 in
set_option maxHeartbeats 4000000 in
theorem s_X2_readOrder {γ : Gm} {l : Launch} {M : Mm} {R : Rm} {K : KT} {M0 : Mm} {tx : Nat → Int32} {pl a : Nat} {k t s v p f : Int32}  (hC : RC R) (hX : PD M0 M tx pl a k t s v p f) (hp : pl ≤ 80) (ha : a ≤ 120) (hK : ∀ M1 k1 t1 s1 v1 p1 f1, OD (rdO tx pl a).1 k1 t1 s1 v1 p1 f1 → PD M0 M1 tx pl (rdO tx pl a).2 k1 t1 s1 v1 p1 f1 → K (some (.int (b01 ((rdO tx pl a).1.isSome = true)))) 243 M1 R) : CL γ l mX2_readOrder 5 243 243 [.ref 29] M R K := by
  show WP γ l mX2_readOrder 5 243 243 0 [some (.ref 29)] [] 243 M R K
  have no : ∀ M1 e k t s v p f, rdO tx pl a = (none, e) → PD M0 M1 tx pl e k t s v p f → K (some (.int 0)) 243 M1 R := fun M1 e k t s v p f h1 h2 => by
    have := hK M1 k t s v p f (fun _ _ _ _ _ _ hq => by rw [h1] at hq; cases hq) (by rw [h1]; exact h2)
    rwa [b01_f (by rw [h1]; simp)] at this
  have yes : ∀ M1 e k2 t2 s2 v2 p2 f2 k s v p f, rdO tx pl a = (some (k2, t2, s2, v2, p2, f2), e) → k2 ≠ 112 → (k2 = 108 → v = v2) → k = nI k2 → PD M0 M1 tx pl e k (nI t2) s v p f → K (some (.int 1)) 243 M1 R := fun M1 e k2 t2 s2 v2 p2 f2 k s v p f h1 h2 h3 h4 h5 => by
    have := hK M1 k _ s v p f (fun _ _ _ _ _ _ hq => by rw [h1] at hq; cases hq; exact ⟨h4, rfl, fun h => absurd h h2, h3⟩) (by rw [h1]; exact h5)
    rwa [b01_t (by rw [h1]; rfl)] at this
  have g1 := hX.w3 (chC tx pl a)
  refine wp_aload_n dX2_readOrder_0 rfl ?_
  refine wp_aload_n dX2_readOrder_1 rfl ?_
  refine wp_cV0 (z := mX2_signHere) (n' := 243) kX2_36 dX2_readOrder_2 (Nat.le_of_ble_eq_true rfl) (Nat.le_of_ble_eq_true rfl) tA_29 (Nat.le_of_ble_eq_true rfl) (Nat.le_of_ble_eq_true rfl) (Nat.le_refl _) (Nat.le_refl _) (s_X2_signHere hC hX hp (by omega) (wp_af ?_))
  refine wp_putI pX2_40 tA_29 rfl ⟨rfl, rfl⟩ (Nat.le_of_ble_eq_true rfl) dX2_readOrder_5 ?_
  refine wp_aload_n dX2_readOrder_8 rfl ?_
  refine wp_getJ fX2_40 tA_29 rfl (Nat.le_of_ble_eq_true rfl) dX2_readOrder_9 (g1.pk) ?_
  refine wp_lswitch [(103, 118), (108, 79), (112, 64), (116, 118), (120, 118)] 133 dX2_readOrder_12 (by decide +kernel) (by decide +kernel) ?_
  refine wp_sw (fun h12_0 => ?_) (fun h12_0 => ?_)
  · have g : nx tx pl a 103 := (chC_nx (by decide)).mp h12_0
    have w : nx tx pl a 120 ∨ nx tx pl a 103 ∨ nx tx pl a 116 := Or.inr (Or.inl g)
    have n1 : ¬ nx tx pl a 112 := nx_ne g (by decide)
    have n2 : ¬ nx tx pl a 108 := nx_ne g (by decide)
    have n4 : (tx a).toNatClampNeg = 103 := by rw [g.2]; rfl
    have n5 : chC tx pl a = nI 103 := h12_0
    have n6 : (103 : Nat) ≠ 112 ∧ (103 : Nat) ≠ 108 := by decide
    refine wp_aload_n dX2_readOrder_118 rfl ?_
    refine wp_dup dX2_readOrder_119 rfl ?_
    refine wp_getJ (v := nI a) fX2_25 tA_29 rfl (Nat.le_of_ble_eq_true rfl) dX2_readOrder_120 (g1.pa) ?_
    refine wp_iconst (v := 1) dX2_readOrder_123 (by decide) ?_
    refine wp_iadd dX2_readOrder_124 ?_
    refine wp_top (z := nI (a + 1)) (nI_1 a) ?_
    refine wp_putI pX2_25 tA_29 rfl ⟨rfl, rfl⟩ (Nat.le_of_ble_eq_true rfl) dX2_readOrder_125 ?_
    refine wp_aload_n dX2_readOrder_128 rfl ?_
    refine wp_cV0 (z := mX2_readTarget) (n' := 243) kX2_46 dX2_readOrder_129 (Nat.le_of_ble_eq_true rfl) (Nat.le_of_ble_eq_true rfl) tA_29 (Nat.le_of_ble_eq_true rfl) (Nat.le_of_ble_eq_true rfl) (Nat.le_refl _) (Nat.le_refl _) (s_X2_readTarget hC (g1.w2 (a + 1)) hp (by omega) (fun M1 g2 => (wp_af ?_)))
    exact wp_iret dX2_readOrder_132 rfl b01_n rfl (by
      rcases e1 : rdN tx pl (a + 1) with _ | ⟨t1, a1⟩
      · rw [b01_f (by simp)]
        rw [(rn_none e1).2] at g2
        exact no _ _ _ _ _ _ _ _ (by rw [rdO, if_neg n1, if_neg n2, if_pos w, e1]) g2
      · rw [b01_t (by simp)]
        rw [(rn_some e1).2, (rn_some e1).1] at g2
        exact yes _ _ _ _ _ _ _ _ _ _ _ _ _ (rdO_t n1 n2 w n4 e1) n6.1 (fun h => absurd h n6.2) n5 g2)
  refine wp_sw (fun h12_1 => ?_) (fun h12_1 => ?_)
  · have g : nx tx pl a 108 := (chC_nx (by decide)).mp h12_1
    have n1 : ¬ nx tx pl a 112 := nx_ne g (by decide)
    have n5 : chC tx pl a = nI 108 := h12_1
    refine wp_aload_n dX2_readOrder_79 rfl ?_
    refine wp_dup dX2_readOrder_80 rfl ?_
    refine wp_getJ (v := nI a) fX2_25 tA_29 rfl (Nat.le_of_ble_eq_true rfl) dX2_readOrder_81 (g1.pa) ?_
    refine wp_iconst (v := 1) dX2_readOrder_84 (by decide) ?_
    refine wp_iadd dX2_readOrder_85 ?_
    refine wp_top (z := nI (a + 1)) (nI_1 a) ?_
    refine wp_putI pX2_25 tA_29 rfl ⟨rfl, rfl⟩ (Nat.le_of_ble_eq_true rfl) dX2_readOrder_86 ?_
    refine wp_aload_n dX2_readOrder_89 rfl ?_
    refine wp_cV0 (z := mX2_readTarget) (n' := 243) kX2_46 dX2_readOrder_90 (Nat.le_of_ble_eq_true rfl) (Nat.le_of_ble_eq_true rfl) tA_29 (Nat.le_of_ble_eq_true rfl) (Nat.le_of_ble_eq_true rfl) (Nat.le_refl _) (Nat.le_refl _) (s_X2_readTarget hC (g1.w2 (a + 1)) hp (by omega) (fun M1 g2 => (wp_af ?_)))
    refine wp_bq_eq (tgt := 116) dX2_readOrder_93 (by decide) (fun h93 => ?_) (fun h93 => ?_)
    · have q0 := not_some h93
      rw [(rn_none q0).2] at g2
      have q1 : rdO tx pl a = (none, a + 1) := by rw [rdO, if_neg n1, if_pos g, q0]
      have q2 := g2
      refine wp_iconst (v := 0) dX2_readOrder_116 (by decide) ?_
      exact wp_iret dX2_readOrder_117 rfl rfl rfl (by first | exact no _ _ _ _ _ _ _ _ q1 q2 | exact yes _ _ _ _ _ _ _ _ _ _ _ _ _ q1 (by decide) (fun _ => rfl) n5 q2)
    · obtain ⟨⟨t1, a1⟩, e1⟩ := some_of h93
      have i1 := rdN_in e1
      rw [(rn_some e1).1, (rn_some e1).2] at g2
      refine wp_aload_n dX2_readOrder_96 rfl ?_
      refine wp_bipush (v := 61) dX2_readOrder_97 (by decide) ?_
      refine wp_cV1 (z := mX2_accept) (n' := 243) kX2_32 dX2_readOrder_99 (Nat.le_of_ble_eq_true rfl) (Nat.le_of_ble_eq_true rfl) tA_29 (Nat.le_of_ble_eq_true rfl) (Nat.le_of_ble_eq_true rfl) (Nat.le_refl _) (Nat.le_refl _) (s_X2_accept hC g2 hp (by omega) (by decide) (fun M2 g3 => (wp_af ?_)))
      refine wp_bq_eq (tgt := 116) dX2_readOrder_102 (by decide) (fun h102 => ?_) (fun h102 => ?_)
      · rw [if_neg h102] at g3
        have q1 : rdO tx pl a = (none, a1) := by rw [rdO, if_neg n1, if_pos g, e1]; dsimp only; rw [if_neg h102]
        have q2 := g3
        refine wp_iconst (v := 0) dX2_readOrder_116 (by decide) ?_
        exact wp_iret dX2_readOrder_117 rfl rfl rfl (by first | exact no _ _ _ _ _ _ _ _ q1 q2 | exact yes _ _ _ _ _ _ _ _ _ _ _ _ _ q1 (by decide) (fun _ => rfl) n5 q2)
      · rw [if_pos h102] at g3
        refine wp_aload_n dX2_readOrder_105 rfl ?_
        refine wp_cV0 (z := mX2_readValue) (n' := 243) kX2_49 dX2_readOrder_106 (Nat.le_of_ble_eq_true rfl) (Nat.le_of_ble_eq_true rfl) tA_29 (Nat.le_of_ble_eq_true rfl) (Nat.le_of_ble_eq_true rfl) (Nat.le_refl _) (Nat.le_refl _) (s_X2_readValue hC g3 hp (by omega) (fun M3 c3 v3 u3 u4 g4 => (wp_af ?_)))
        refine wp_bq_eq (tgt := 116) dX2_readOrder_109 (by decide) (fun h109 => ?_) (fun h109 => ?_)
        · have q0 := not_some h109
          obtain rfl := u3 q0
          have q1 : rdO tx pl a = (none, vF tx pl (a1 + 1)) := by rw [rdO, if_neg n1, if_pos g, e1]; dsimp only; rw [if_pos h102, q0]
          have q2 := g4
          refine wp_iconst (v := 0) dX2_readOrder_116 (by decide) ?_
          exact wp_iret dX2_readOrder_117 rfl rfl rfl (by first | exact no _ _ _ _ _ _ _ _ q1 q2 | exact yes _ _ _ _ _ _ _ _ _ _ _ _ _ q1 (by decide) (fun _ => rfl) n5 q2)
        · obtain ⟨⟨v1, a2⟩, e3⟩ := some_of h109
          obtain ⟨rfl, rfl⟩ := u4 v1 a2 e3
          have q1 : rdO tx pl a = (some (108, t1, 0, v3, 0, 0), c3) := by rw [rdO, if_neg n1, if_pos g, e1]; dsimp only; rw [if_pos h102, e3]
          have q2 := g4
          refine wp_iconst (v := 1) dX2_readOrder_112 (by decide) ?_
          refine wp_goto (tgt := 117) dX2_readOrder_113 (by decide) ?_
          exact wp_iret dX2_readOrder_117 rfl rfl rfl (by first | exact no _ _ _ _ _ _ _ _ q1 q2 | exact yes _ _ _ _ _ _ _ _ _ _ _ _ _ q1 (by decide) (fun _ => rfl) n5 q2)
  refine wp_sw (fun h12_2 => ?_) (fun h12_2 => ?_)
  · have g : nx tx pl a 112 := (chC_nx (by decide)).mp h12_2
    have e0 : rdO tx pl a = ((rdR tx pl (a + 1)).1.map fun q => (112, q.1, q.2.1, q.2.2.1, q.2.2.2.1, q.2.2.2.2), (rdR tx pl (a + 1)).2) := by rw [rdO, if_pos g]
    have n5 : chC tx pl a = nI 112 := h12_2
    refine wp_aload_n dX2_readOrder_64 rfl ?_
    refine wp_dup dX2_readOrder_65 rfl ?_
    refine wp_getJ (v := nI a) fX2_25 tA_29 rfl (Nat.le_of_ble_eq_true rfl) dX2_readOrder_66 (g1.pa) ?_
    refine wp_iconst (v := 1) dX2_readOrder_69 (by decide) ?_
    refine wp_iadd dX2_readOrder_70 ?_
    refine wp_top (z := nI (a + 1)) (nI_1 a) ?_
    refine wp_putI pX2_25 tA_29 rfl ⟨rfl, rfl⟩ (Nat.le_of_ble_eq_true rfl) dX2_readOrder_71 ?_
    refine wp_aload_n dX2_readOrder_74 rfl ?_
    refine wp_cV0 (z := mX2_readPaddle) (n' := 243) kX2_43 dX2_readOrder_75 (Nat.le_of_ble_eq_true rfl) (Nat.le_of_ble_eq_true rfl) tA_29 (Nat.le_of_ble_eq_true rfl) (Nat.le_of_ble_eq_true rfl) (Nat.le_refl _) (Nat.le_refl _) (s_X2_readPaddle hC (g1.w2 (a + 1)) hp (by omega) (fun M1 t1 s1 v1 p1 f1 g2 g3 => (wp_af ?_)))
    exact wp_iret dX2_readOrder_78 rfl b01_n rfl (by
      have e2 : (rdO tx pl a).1.isSome = (rdR tx pl (a + 1)).1.isSome := by rw [e0, Option.isSome_map]
      have := hK M1 _ t1 s1 v1 p1 f1 (fun k2 t2 s2 v2 p2 f2 hq => by
        rw [e0] at hq
        obtain ⟨⟨t4, s4, v4, p4, f4⟩, h2, h3⟩ := Option.map_eq_some_iff.mp hq
        cases h3
        obtain ⟨d1, d2, d3, d4, d5⟩ := g2 _ _ _ _ _ h2
        exact ⟨n5, d1, fun _ => ⟨d2, d3, d4, d5⟩, fun h => absurd h (by decide)⟩) (by rw [e0]; exact g3)
      rwa [e2] at this)
  refine wp_sw (fun h12_3 => ?_) (fun h12_3 => ?_)
  · have g : nx tx pl a 116 := (chC_nx (by decide)).mp h12_3
    have w : nx tx pl a 120 ∨ nx tx pl a 103 ∨ nx tx pl a 116 := Or.inr (Or.inr g)
    have n1 : ¬ nx tx pl a 112 := nx_ne g (by decide)
    have n2 : ¬ nx tx pl a 108 := nx_ne g (by decide)
    have n4 : (tx a).toNatClampNeg = 116 := by rw [g.2]; rfl
    have n5 : chC tx pl a = nI 116 := h12_3
    have n6 : (116 : Nat) ≠ 112 ∧ (116 : Nat) ≠ 108 := by decide
    refine wp_aload_n dX2_readOrder_118 rfl ?_
    refine wp_dup dX2_readOrder_119 rfl ?_
    refine wp_getJ (v := nI a) fX2_25 tA_29 rfl (Nat.le_of_ble_eq_true rfl) dX2_readOrder_120 (g1.pa) ?_
    refine wp_iconst (v := 1) dX2_readOrder_123 (by decide) ?_
    refine wp_iadd dX2_readOrder_124 ?_
    refine wp_top (z := nI (a + 1)) (nI_1 a) ?_
    refine wp_putI pX2_25 tA_29 rfl ⟨rfl, rfl⟩ (Nat.le_of_ble_eq_true rfl) dX2_readOrder_125 ?_
    refine wp_aload_n dX2_readOrder_128 rfl ?_
    refine wp_cV0 (z := mX2_readTarget) (n' := 243) kX2_46 dX2_readOrder_129 (Nat.le_of_ble_eq_true rfl) (Nat.le_of_ble_eq_true rfl) tA_29 (Nat.le_of_ble_eq_true rfl) (Nat.le_of_ble_eq_true rfl) (Nat.le_refl _) (Nat.le_refl _) (s_X2_readTarget hC (g1.w2 (a + 1)) hp (by omega) (fun M1 g2 => (wp_af ?_)))
    exact wp_iret dX2_readOrder_132 rfl b01_n rfl (by
      rcases e1 : rdN tx pl (a + 1) with _ | ⟨t1, a1⟩
      · rw [b01_f (by simp)]
        rw [(rn_none e1).2] at g2
        exact no _ _ _ _ _ _ _ _ (by rw [rdO, if_neg n1, if_neg n2, if_pos w, e1]) g2
      · rw [b01_t (by simp)]
        rw [(rn_some e1).2, (rn_some e1).1] at g2
        exact yes _ _ _ _ _ _ _ _ _ _ _ _ _ (rdO_t n1 n2 w n4 e1) n6.1 (fun h => absurd h n6.2) n5 g2)
  refine wp_sw (fun h12_4 => ?_) (fun h12_4 => ?_)
  · have g : nx tx pl a 120 := (chC_nx (by decide)).mp h12_4
    have w : nx tx pl a 120 ∨ nx tx pl a 103 ∨ nx tx pl a 116 := Or.inl g
    have n1 : ¬ nx tx pl a 112 := nx_ne g (by decide)
    have n2 : ¬ nx tx pl a 108 := nx_ne g (by decide)
    have n4 : (tx a).toNatClampNeg = 120 := by rw [g.2]; rfl
    have n5 : chC tx pl a = nI 120 := h12_4
    have n6 : (120 : Nat) ≠ 112 ∧ (120 : Nat) ≠ 108 := by decide
    refine wp_aload_n dX2_readOrder_118 rfl ?_
    refine wp_dup dX2_readOrder_119 rfl ?_
    refine wp_getJ (v := nI a) fX2_25 tA_29 rfl (Nat.le_of_ble_eq_true rfl) dX2_readOrder_120 (g1.pa) ?_
    refine wp_iconst (v := 1) dX2_readOrder_123 (by decide) ?_
    refine wp_iadd dX2_readOrder_124 ?_
    refine wp_top (z := nI (a + 1)) (nI_1 a) ?_
    refine wp_putI pX2_25 tA_29 rfl ⟨rfl, rfl⟩ (Nat.le_of_ble_eq_true rfl) dX2_readOrder_125 ?_
    refine wp_aload_n dX2_readOrder_128 rfl ?_
    refine wp_cV0 (z := mX2_readTarget) (n' := 243) kX2_46 dX2_readOrder_129 (Nat.le_of_ble_eq_true rfl) (Nat.le_of_ble_eq_true rfl) tA_29 (Nat.le_of_ble_eq_true rfl) (Nat.le_of_ble_eq_true rfl) (Nat.le_refl _) (Nat.le_refl _) (s_X2_readTarget hC (g1.w2 (a + 1)) hp (by omega) (fun M1 g2 => (wp_af ?_)))
    exact wp_iret dX2_readOrder_132 rfl b01_n rfl (by
      rcases e1 : rdN tx pl (a + 1) with _ | ⟨t1, a1⟩
      · rw [b01_f (by simp)]
        rw [(rn_none e1).2] at g2
        exact no _ _ _ _ _ _ _ _ (by rw [rdO, if_neg n1, if_neg n2, if_pos w, e1]) g2
      · rw [b01_t (by simp)]
        rw [(rn_some e1).2, (rn_some e1).1] at g2
        exact yes _ _ _ _ _ _ _ _ _ _ _ _ _ (rdO_t n1 n2 w n4 e1) n6.1 (fun h => absurd h n6.2) n5 g2)
  refine wp_sw0 ?_
  refine wp_iconst (v := 0) dX2_readOrder_133 (by decide) ?_
  exact wp_iret dX2_readOrder_134 rfl rfl rfl (no _ _ _ _ _ _ _ _ (by rw [rdO, if_neg (fun e => h12_2 ((chC_nx (by decide)).mpr e)), if_neg (fun e => h12_1 ((chC_nx (by decide)).mpr e)), if_neg (fun e => e.elim (fun e => h12_4 ((chC_nx (by decide)).mpr e)) (fun e => e.elim (fun e => h12_0 ((chC_nx (by decide)).mpr e)) (fun e => h12_3 ((chC_nx (by decide)).mpr e))))]) g1)

set_option maxRecDepth 100000 in
set_option maxHeartbeats 4000000 in
theorem s_X2_findFault {γ : Gm} {l : Launch} {M : Mm} {R : Rm} {K : KT} {M0 : Mm} {tx : Nat → Int32} {pl a : Nat} {k t s v p f : Int32}  (hC : RC R) (hX : PD M0 M tx pl a k t s v p f) (hp : pl ≤ 80) (hK : ∀ M1 e k t s v p f, PD M0 M1 tx pl e k t s v p f → K (some (.int (ffF tx pl 82 0))) 243 M1 R) : CL γ l mX2_findFault 6 243 243 [.ref 29] M R K := by
  show WP γ l mX2_findFault 6 243 243 0 [some (.ref 29), none] [] 243 M R K
  have loop : ∀ (q b : Nat) (M1 : Mm) (k1 t1 s1 v1 p1 f1 : Int32) (c : Nat), ffF tx pl q b = ffF tx pl 82 0 → b ≤ pl → pl - b < q → 2 * c ≤ b → PD M0 M1 tx pl b k1 t1 s1 v1 p1 f1 → WP γ l mX2_findFault 6 243 243 7 [some (.ref 29), some (.int (nI c))] [] 243 M1 R K := by
    intro q
    induction q with
    | zero => intro b M1 k1 t1 s1 v1 p1 f1 c _ _ h; omega
    | succ q ih =>
      intro b M1 k1 t1 s1 v1 p1 f1 c hff hb hq hcb h1
      rw [ffF] at hff
      refine wp_iload_n dX2_findFault_7 rfl ?_
      refine wp_bipush (v := 80) dX2_findFault_8 (by decide) ?_
      refine wp_icN_ge (a := c) (b := 80) (tgt := 59) dX2_findFault_10 (by decide) rfl rfl (by omega) (by omega) (fun h10 => absurd h10 (by omega)) (fun h10 => ?_)
      refine wp_aload_n dX2_findFault_13 rfl ?_
      refine wp_cV0 (z := mX2_readOrder) (n' := 243) kX2_28 dX2_findFault_14 (Nat.le_of_ble_eq_true rfl) (Nat.le_of_ble_eq_true rfl) tA_29 (Nat.le_of_ble_eq_true rfl) (Nat.le_of_ble_eq_true rfl) (Nat.le_refl _) (Nat.le_refl _) (s_X2_readOrder hC h1 hp (by omega) (fun M3 k3 t3 s3 v3 p3 f3 od h3 => (wp_af ?_)))
      refine wp_bq_ne (tgt := 25) dX2_findFault_17 (by decide) (fun h17 => ?_) (fun h17 => ?_)
      · obtain ⟨⟨k, t, s, v, p, f⟩, e1⟩ := some_of h17
        obtain ⟨e, e2⟩ : ∃ e, e = (rdO tx pl b).2 := ⟨_, rfl⟩
        have hb2 := rdO_in (show rdO tx pl b = (some (k, t, s, v, p, f), e) by rw [← e1, e2])
        rw [if_pos h17, ← e2] at hff
        rw [← e2] at h3
        refine wp_aload_n dX2_findFault_25 rfl ?_
        refine wp_getJ (v := nI e) fX2_25 tA_29 rfl (Nat.le_of_ble_eq_true rfl) dX2_findFault_26 (h3.pa) ?_
        refine wp_aload_n dX2_findFault_29 rfl ?_
        refine wp_getJ (v := nI pl) fX2_19 tA_29 rfl (Nat.le_of_ble_eq_true rfl) dX2_findFault_30 (h3.ppl) ?_
        refine wp_icN_lt (a := e) (b := pl) (tgt := 39) dX2_findFault_33 (by decide) rfl rfl (by omega) (by omega) (fun h33 => ?_) (fun h33 => ?_)
        · rw [if_neg (by omega)] at hff
          refine wp_aload_n dX2_findFault_39 rfl ?_
          refine wp_bipush (v := 59) dX2_findFault_40 (by decide) ?_
          refine wp_cV1 (z := mX2_accept) (n' := 243) kX2_32 dX2_findFault_42 (Nat.le_of_ble_eq_true rfl) (Nat.le_of_ble_eq_true rfl) tA_29 (Nat.le_of_ble_eq_true rfl) (Nat.le_of_ble_eq_true rfl) (Nat.le_refl _) (Nat.le_refl _) (s_X2_accept hC h3 hp (by omega) (by decide) (fun M4 h4 => (wp_af ?_)))
          refine wp_bq_ne (tgt := 53) dX2_findFault_45 (by decide) (fun h45 => ?_) (fun h45 => ?_)
          · rw [if_pos h45] at hff h4
            refine wp_iinc (v := nI (c + 1)) (L' := [some (.ref 29), some (.int (nI (c + 1)))]) dX2_findFault_53 (by decide) rfl (inc_1 _) rfl ?_
            refine wp_goto (tgt := 7) dX2_findFault_56 (by decide) ?_
            exact ih (e + 1) _ _ _ _ _ _ _ (c + 1) hff (by have := h45.1; omega) (by omega) (by omega) h4
          · rw [if_neg h45] at hff h4
            refine wp_aload_n dX2_findFault_48 rfl ?_
            refine wp_getJ fX2_25 tA_29 rfl (Nat.le_of_ble_eq_true rfl) dX2_findFault_49 (h4.pa) ?_
            exact wp_iret dX2_findFault_52 rfl rfl rfl (hff ▸ hK _ _ _ _ _ _ _ _ h4)
        · rw [if_pos (by omega)] at hff
          refine wp_bipush (v := (-6)) dX2_findFault_36 (by decide) ?_
          exact wp_iret dX2_findFault_38 rfl rfl rfl (hff ▸ hK _ _ _ _ _ _ _ _ h3)
      · rw [if_neg h17] at hff
        refine wp_aload_n dX2_findFault_20 rfl ?_
        refine wp_getJ fX2_25 tA_29 rfl (Nat.le_of_ble_eq_true rfl) dX2_findFault_21 (h3.pa) ?_
        exact wp_iret dX2_findFault_24 rfl rfl rfl (hff ▸ hK _ _ _ _ _ _ _ _ h3)
  refine wp_aload_n dX2_findFault_0 rfl ?_
  refine wp_iconst (v := 0) dX2_findFault_1 (by decide) ?_
  refine wp_putI pX2_25 tA_29 rfl ⟨rfl, rfl⟩ (Nat.le_of_ble_eq_true rfl) dX2_findFault_2 ?_
  refine wp_iconst (v := 0) dX2_findFault_5 (by decide) ?_
  refine wp_istore_n (L' := [some (.ref 29), some (.int _)]) dX2_findFault_6 (by decide) rfl ?_
  exact loop 82 0 _ _ _ _ _ _ _ 0 rfl (by omega) (by omega) (by omega) (hX.w2 0)

