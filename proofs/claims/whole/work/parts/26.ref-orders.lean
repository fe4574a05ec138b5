/-! THE REFERENCE: the reading of orders -/
def rdR (tx : Nat → Int32) (pl a : Nat) : Option (Nat × Nat × Int32 × Nat × Nat) × Nat :=
  match rdN tx pl a with
  | none => (none, a)
  | some (t, a1) =>
    match rdS tx pl a1 with
    | none => (none, a1)
    | some s =>
      match rdV tx pl (a1 + 1) with
      | none => (none, vF tx pl (a1 + 1))
      | some (v, a2) =>
        if nx tx pl a2 47 then
          match rdN tx pl (a2 + 1) with
          | none => (none, a2 + 1)
          | some (p, a3) =>
            if nx tx pl a3 43 then
              match rdN tx pl (a3 + 1) with
              | none => (none, a3 + 1)
              | some (f, a4) => (some (t, s, v, p, f), a4)
            else (some (t, s, v, p, 0), a3)
        else (none, a2)
/-- an order: kind, target, sort, value, period, phase; where the reading ends -/
def rdO (tx : Nat → Int32) (pl a : Nat) : Option (Nat × Nat × Nat × Int32 × Nat × Nat) × Nat :=
  if nx tx pl a 112 then ((rdR tx pl (a + 1)).1.map fun q => (112, q.1, q.2.1, q.2.2.1, q.2.2.2.1, q.2.2.2.2), (rdR tx pl (a + 1)).2)
  else if nx tx pl a 108 then
    match rdN tx pl (a + 1) with
    | none => (none, a + 1)
    | some (t, a1) =>
      if nx tx pl a1 61 then
        match rdV tx pl (a1 + 1) with
        | none => (none, vF tx pl (a1 + 1))
        | some (v, a2) => (some (108, t, 0, v, 0, 0), a2)
      else (none, a1)
  else if nx tx pl a 120 ∨ nx tx pl a 103 ∨ nx tx pl a 116 then
    match rdN tx pl (a + 1) with
    | none => (none, a + 1)
    | some (t, a1) => (some ((tx a).toNatClampNeg, t, 0, 0, 0, 0), a1)
  else (none, a)
def RcP (M0 M : Mm) (tx : Nat → Int32) (pl a : Nat) (lt : Int32) : Prop := ∃ m nb so, PS M0 M tx pl (rdR tx pl a).2 m nb lt so ∧ ∀ t s v p f, (rdR tx pl a).1 = some (t, s, v, p, f) → nb 0 = nI t ∧ nb 1 = v ∧ nb 2 = nI p ∧ nb 3 = nI f ∧ so = nI s
def RO (M0 M : Mm) (tx : Nat → Int32) (pl a : Nat) : Prop := ∃ m nb lt so, PS M0 M tx pl (rdO tx pl a).2 m nb lt so ∧ ∀ k t s v p f, (rdO tx pl a).1 = some (k, t, s, v, p, f) → lt = nI k ∧ nb 0 = nI t ∧ (k = 112 → nb 1 = v ∧ nb 2 = nI p ∧ nb 3 = nI f ∧ so = nI s) ∧ (k = 108 → nb 1 = v)
theorem rc_no {M0 M : Mm} {tx nb : Nat → Int32} {pl a e m : Nat} {lt so : Int32} (eR : rdR tx pl a = (none, e)) (h : PS M0 M tx pl e m nb lt so) : RcP M0 M tx pl a lt := by
  refine ⟨m, nb, so, by rw [eR]; exact h, fun t s v p f h2 => ?_⟩
  rw [eR] at h2
  cases h2
theorem rc_ok {M0 M : Mm} {tx nb : Nat → Int32} {pl a e m t s p f : Nat} {lt so v : Int32} (eR : rdR tx pl a = (some (t, s, v, p, f), e)) (h : PS M0 M tx pl e m nb lt so) (h0 : nb 0 = nI t) (h1 : nb 1 = v) (h2 : nb 2 = nI p) (h3 : nb 3 = nI f) (h4 : so = nI s) : RcP M0 M tx pl a lt := by
  refine ⟨m, nb, so, by rw [eR]; exact h, fun t s v p f h2 => ?_⟩
  rw [eR] at h2
  cases h2
  exact ⟨h0, h1, by assumption, h3, h4⟩
theorem not_some {α : Type} {x : Option α} (h : ¬ x.isSome = true) : x = none := by
  cases x
  · rfl
  · exact absurd rfl h
theorem some_of {α : Type} {x : Option α} (h : x.isSome = true) : ∃ y, x = some y := by
  cases x
  · exact absurd h (by simp)
  · exact ⟨_, rfl⟩
theorem vF_in (tx : Nat → Int32) (pl a : Nat) : a ≤ vF tx pl a ∧ vF tx pl a ≤ a + 1 := by
  unfold vF
  split <;> omega
theorem rdV_in {tx : Nat → Int32} {pl a e : Nat} {v : Int32} (h : rdV tx pl a = some (v, e)) : a < e ∧ e ≤ pl ∧ e ≤ a + 4 := by
  obtain ⟨⟨x, e2⟩, h2, h3⟩ := Option.map_eq_some_iff.mp h
  cases h3
  have := rdN_in h2
  have := vF_in tx pl a
  omega
set_option maxRecDepth 100000 in
set_option maxHeartbeats 4000000 in
theorem s_X6_takesRecipe {γ : Gm} {l : Launch} {M : Mm} {R : Rm} {K : KT} {M0 : Mm} {tx nb : Nat → Int32} {pl a : Nat} {lt so : Int32}  (hM : RM R) (hX : PS M0 M tx pl a 0 nb lt so) (hp : pl ≤ 80) (ha : a ≤ 180) (hK : ∀ M1, RcP M0 M1 tx pl a lt → K (some (.int (b01 ((rdR tx pl a).1.isSome = true)))) 243 M1 R) : CL γ l mX6_takesRecipe 4 243 243 [.ref 235] M R K := by
  show WP γ l mX6_takesRecipe 4 243 243 0 [some (.ref 235), none] [] 243 M R K
  refine wp_aload_n dX6_takesRecipe_0 rfl ?_
  refine wp_iconst (v := 1) dX6_takesRecipe_1 (by decide) ?_
  refine wp_cV1 (z := mX6_takesNumber) (n' := 243) kX6_183 dX6_takesRecipe_2 (Nat.le_of_ble_eq_true rfl) (Nat.le_of_ble_eq_true rfl) tA_235 (Nat.le_of_ble_eq_true rfl) (Nat.le_of_ble_eq_true rfl) (Nat.le_refl _) (Nat.le_refl _) (s_X6_takesNumber hM hX hp (by omega) (by decide) (fun M1 hX1 => (wp_af ?_)))
  refine wp_bq_eq (tgt := 43) dX6_takesRecipe_5 (by decide) (fun h5 => ?_) (fun h5 => ?_)
  · have e1 := not_some h5
    have hQ := (hX1.1 e1).un 3 0
    have eR : rdR tx pl a = (none, a) := by simp only [rdR, e1]
    refine wp_iconst (v := 0) dX6_takesRecipe_43 (by decide) ?_
    refine wp_istore_n (L' := [some (.ref 235), some (.int _)]) dX6_takesRecipe_44 (by decide) rfl ?_
    refine wp_aload_n dX6_takesRecipe_45 rfl ?_
    refine wp_getQ fX6_28 tA_235 rfl hM.f11 (by decide) (Nat.le_of_ble_eq_true rfl) dX6_takesRecipe_46 ?_
    refine wp_iconst (v := 3) dX6_takesRecipe_49 (by decide) ?_
    refine wp_iconst (v := 0) dX6_takesRecipe_50 (by decide) ?_
    refine wp_iast (i := 3) rfl tA_242 (Nat.le_of_ble_eq_true rfl) (by rw [lA_242]; omega) (Nat.le_of_ble_eq_true rfl) dX6_takesRecipe_51 ?_
    refine wp_iload_n dX6_takesRecipe_52 rfl ?_
    refine wp_ifN_eq (a := 0) (tgt := 77) dX6_takesRecipe_53 (by decide) rfl (by omega) (fun _ => ?_) (fun h => absurd h (by decide))
    refine wp_iconst (v := 0) dX6_takesRecipe_77 (by decide) ?_
    exact wp_iret dX6_takesRecipe_78 rfl rfl rfl (by
      first
        | (have := hK _ (rc_no eR hQ); rwa [b01_f (by rw [eR]; simp)] at this)
        | (have := hK _ (rc_ok eR hQ (by simp [up, Int32.one_mul]) (by simp [up]) (by simp [up, Int32.one_mul]) (by simp [up, Int32.one_mul, nI_0]) rfl); rwa [b01_t (by rw [eR]; rfl)] at this))
  · obtain ⟨⟨t, a1⟩, e1⟩ := some_of h5
    replace hX1 := hX1.2 t a1 e1
    have b1 := rdN_in e1
    refine wp_aload_n dX6_takesRecipe_8 rfl ?_
    refine wp_cV0 (z := mX6_takesSort) (n' := 243) kX6_189 dX6_takesRecipe_9 (Nat.le_of_ble_eq_true rfl) (Nat.le_of_ble_eq_true rfl) tA_235 (Nat.le_of_ble_eq_true rfl) (Nat.le_of_ble_eq_true rfl) (Nat.le_refl _) (Nat.le_refl _) (s_X6_takesSort hM hX1 hp (by omega) (fun M2 hX2 => (wp_af ?_)))
    refine wp_bq_eq (tgt := 43) dX6_takesRecipe_12 (by decide) (fun h12 => ?_) (fun h12 => ?_)
    · have e2 := not_some h12
      have hQ := (hX2.1 e2).un 3 0
      have eR : rdR tx pl a = (none, a1) := by simp only [rdR, e1, e2]
      refine wp_iconst (v := 0) dX6_takesRecipe_43 (by decide) ?_
      refine wp_istore_n (L' := [some (.ref 235), some (.int _)]) dX6_takesRecipe_44 (by decide) rfl ?_
      refine wp_aload_n dX6_takesRecipe_45 rfl ?_
      refine wp_getQ fX6_28 tA_235 rfl hM.f11 (by decide) (Nat.le_of_ble_eq_true rfl) dX6_takesRecipe_46 ?_
      refine wp_iconst (v := 3) dX6_takesRecipe_49 (by decide) ?_
      refine wp_iconst (v := 0) dX6_takesRecipe_50 (by decide) ?_
      refine wp_iast (i := 3) rfl tA_242 (Nat.le_of_ble_eq_true rfl) (by rw [lA_242]; omega) (Nat.le_of_ble_eq_true rfl) dX6_takesRecipe_51 ?_
      refine wp_iload_n dX6_takesRecipe_52 rfl ?_
      refine wp_ifN_eq (a := 0) (tgt := 77) dX6_takesRecipe_53 (by decide) rfl (by omega) (fun _ => ?_) (fun h => absurd h (by decide))
      refine wp_iconst (v := 0) dX6_takesRecipe_77 (by decide) ?_
      exact wp_iret dX6_takesRecipe_78 rfl rfl rfl (by
      first
        | (have := hK _ (rc_no eR hQ); rwa [b01_f (by rw [eR]; simp)] at this)
        | (have := hK _ (rc_ok eR hQ (by simp [up, Int32.one_mul]) (by simp [up]) (by simp [up, Int32.one_mul]) (by simp [up, Int32.one_mul, nI_0]) rfl); rwa [b01_t (by rw [eR]; rfl)] at this))
    · obtain ⟨s, e2⟩ := some_of h12
      replace hX2 := hX2.2 s e2
      refine wp_aload_n dX6_takesRecipe_15 rfl ?_
      refine wp_cV0 (z := mX6_takesValue) (n' := 243) kX6_192 dX6_takesRecipe_16 (Nat.le_of_ble_eq_true rfl) (Nat.le_of_ble_eq_true rfl) tA_235 (Nat.le_of_ble_eq_true rfl) (Nat.le_of_ble_eq_true rfl) (Nat.le_refl _) (Nat.le_refl _) (s_X6_takesValue hM hX2 hp (by omega) (by decide) (fun M3 hX3 => (wp_af ?_)))
      refine wp_bq_eq (tgt := 43) dX6_takesRecipe_19 (by decide) (fun h19 => ?_) (fun h19 => ?_)
      · have e3 := not_some h19
        have hQ := (hX3.1 e3).un 3 0
        have eR : rdR tx pl a = (none, vF tx pl (a1 + 1)) := by simp only [rdR, e1, e2, e3]
        refine wp_iconst (v := 0) dX6_takesRecipe_43 (by decide) ?_
        refine wp_istore_n (L' := [some (.ref 235), some (.int _)]) dX6_takesRecipe_44 (by decide) rfl ?_
        refine wp_aload_n dX6_takesRecipe_45 rfl ?_
        refine wp_getQ fX6_28 tA_235 rfl hM.f11 (by decide) (Nat.le_of_ble_eq_true rfl) dX6_takesRecipe_46 ?_
        refine wp_iconst (v := 3) dX6_takesRecipe_49 (by decide) ?_
        refine wp_iconst (v := 0) dX6_takesRecipe_50 (by decide) ?_
        refine wp_iast (i := 3) rfl tA_242 (Nat.le_of_ble_eq_true rfl) (by rw [lA_242]; omega) (Nat.le_of_ble_eq_true rfl) dX6_takesRecipe_51 ?_
        refine wp_iload_n dX6_takesRecipe_52 rfl ?_
        refine wp_ifN_eq (a := 0) (tgt := 77) dX6_takesRecipe_53 (by decide) rfl (by omega) (fun _ => ?_) (fun h => absurd h (by decide))
        refine wp_iconst (v := 0) dX6_takesRecipe_77 (by decide) ?_
        exact wp_iret dX6_takesRecipe_78 rfl rfl rfl (by
      first
        | (have := hK _ (rc_no eR hQ); rwa [b01_f (by rw [eR]; simp)] at this)
        | (have := hK _ (rc_ok eR hQ (by simp [up, Int32.one_mul]) (by simp [up]) (by simp [up, Int32.one_mul]) (by simp [up, Int32.one_mul, nI_0]) rfl); rwa [b01_t (by rw [eR]; rfl)] at this))
      · obtain ⟨⟨v, a2⟩, e3⟩ := some_of h19
        replace hX3 := hX3.2 v a2 e3
        have b3 := rdV_in e3
        refine wp_aload_n dX6_takesRecipe_22 rfl ?_
        refine wp_bipush (v := 47) dX6_takesRecipe_23 (by decide) ?_
        refine wp_cV1 (z := mX6_isNext) (n' := 243) kX6_180 dX6_takesRecipe_25 (Nat.le_of_ble_eq_true rfl) (Nat.le_of_ble_eq_true rfl) tA_235 (Nat.le_of_ble_eq_true rfl) (Nat.le_of_ble_eq_true rfl) (Nat.le_refl _) (Nat.le_refl _) (s_X6_isNext hM hX3 hp (by omega) (by decide) (fun M4 hX4 => (wp_af ?_)))
        refine wp_bq_eq (tgt := 43) dX6_takesRecipe_28 (by decide) (fun h28 => ?_) (fun h28 => ?_)
        · rw [if_neg h28] at hX4
          have hQ := hX4.un 3 0
          have eR : rdR tx pl a = (none, a2) := by simp only [rdR, e1, e2, e3, if_neg h28]
          refine wp_iconst (v := 0) dX6_takesRecipe_43 (by decide) ?_
          refine wp_istore_n (L' := [some (.ref 235), some (.int _)]) dX6_takesRecipe_44 (by decide) rfl ?_
          refine wp_aload_n dX6_takesRecipe_45 rfl ?_
          refine wp_getQ fX6_28 tA_235 rfl hM.f11 (by decide) (Nat.le_of_ble_eq_true rfl) dX6_takesRecipe_46 ?_
          refine wp_iconst (v := 3) dX6_takesRecipe_49 (by decide) ?_
          refine wp_iconst (v := 0) dX6_takesRecipe_50 (by decide) ?_
          refine wp_iast (i := 3) rfl tA_242 (Nat.le_of_ble_eq_true rfl) (by rw [lA_242]; omega) (Nat.le_of_ble_eq_true rfl) dX6_takesRecipe_51 ?_
          refine wp_iload_n dX6_takesRecipe_52 rfl ?_
          refine wp_ifN_eq (a := 0) (tgt := 77) dX6_takesRecipe_53 (by decide) rfl (by omega) (fun _ => ?_) (fun h => absurd h (by decide))
          refine wp_iconst (v := 0) dX6_takesRecipe_77 (by decide) ?_
          exact wp_iret dX6_takesRecipe_78 rfl rfl rfl (by
      first
        | (have := hK _ (rc_no eR hQ); rwa [b01_f (by rw [eR]; simp)] at this)
        | (have := hK _ (rc_ok eR hQ (by simp [up, Int32.one_mul]) (by simp [up]) (by simp [up, Int32.one_mul]) (by simp [up, Int32.one_mul, nI_0]) rfl); rwa [b01_t (by rw [eR]; rfl)] at this))
        · rw [if_pos h28] at hX4
          refine wp_aload_n dX6_takesRecipe_31 rfl ?_
          refine wp_iconst (v := 1) dX6_takesRecipe_32 (by decide) ?_
          refine wp_cV1 (z := mX6_takesNumber) (n' := 243) kX6_183 dX6_takesRecipe_33 (Nat.le_of_ble_eq_true rfl) (Nat.le_of_ble_eq_true rfl) tA_235 (Nat.le_of_ble_eq_true rfl) (Nat.le_of_ble_eq_true rfl) (Nat.le_refl _) (Nat.le_refl _) (s_X6_takesNumber hM hX4 hp (by omega) (by decide) (fun M5 hX5 => (wp_af ?_)))
          refine wp_bq_eq (tgt := 43) dX6_takesRecipe_36 (by decide) (fun h36 => ?_) (fun h36 => ?_)
          · have e5 := not_some h36
            have hQ := (hX5.1 e5).un 3 0
            have eR : rdR tx pl a = (none, a2 + 1) := by simp only [rdR, e1, e2, e3, if_pos h28, e5]
            refine wp_iconst (v := 0) dX6_takesRecipe_43 (by decide) ?_
            refine wp_istore_n (L' := [some (.ref 235), some (.int _)]) dX6_takesRecipe_44 (by decide) rfl ?_
            refine wp_aload_n dX6_takesRecipe_45 rfl ?_
            refine wp_getQ fX6_28 tA_235 rfl hM.f11 (by decide) (Nat.le_of_ble_eq_true rfl) dX6_takesRecipe_46 ?_
            refine wp_iconst (v := 3) dX6_takesRecipe_49 (by decide) ?_
            refine wp_iconst (v := 0) dX6_takesRecipe_50 (by decide) ?_
            refine wp_iast (i := 3) rfl tA_242 (Nat.le_of_ble_eq_true rfl) (by rw [lA_242]; omega) (Nat.le_of_ble_eq_true rfl) dX6_takesRecipe_51 ?_
            refine wp_iload_n dX6_takesRecipe_52 rfl ?_
            refine wp_ifN_eq (a := 0) (tgt := 77) dX6_takesRecipe_53 (by decide) rfl (by omega) (fun _ => ?_) (fun h => absurd h (by decide))
            refine wp_iconst (v := 0) dX6_takesRecipe_77 (by decide) ?_
            exact wp_iret dX6_takesRecipe_78 rfl rfl rfl (by
      first
        | (have := hK _ (rc_no eR hQ); rwa [b01_f (by rw [eR]; simp)] at this)
        | (have := hK _ (rc_ok eR hQ (by simp [up, Int32.one_mul]) (by simp [up]) (by simp [up, Int32.one_mul]) (by simp [up, Int32.one_mul, nI_0]) rfl); rwa [b01_t (by rw [eR]; rfl)] at this))
          · obtain ⟨⟨p, a3⟩, e5⟩ := some_of h36
            replace hX5 := hX5.2 p a3 e5
            have b5 := rdN_in e5
            refine wp_iconst (v := 1) dX6_takesRecipe_39 (by decide) ?_
            refine wp_goto (tgt := 44) dX6_takesRecipe_40 (by decide) ?_
            refine wp_istore_n (L' := [some (.ref 235), some (.int _)]) dX6_takesRecipe_44 (by decide) rfl ?_
            refine wp_aload_n dX6_takesRecipe_45 rfl ?_
            refine wp_getQ fX6_28 tA_235 rfl hM.f11 (by decide) (Nat.le_of_ble_eq_true rfl) dX6_takesRecipe_46 ?_
            refine wp_iconst (v := 3) dX6_takesRecipe_49 (by decide) ?_
            refine wp_iconst (v := 0) dX6_takesRecipe_50 (by decide) ?_
            refine wp_iast (i := 3) rfl tA_242 (Nat.le_of_ble_eq_true rfl) (by rw [lA_242]; omega) (Nat.le_of_ble_eq_true rfl) dX6_takesRecipe_51 ?_
            refine wp_iload_n dX6_takesRecipe_52 rfl ?_
            refine wp_ifN_eq (a := 1) (tgt := 77) dX6_takesRecipe_53 (by decide) rfl (by omega) (fun h => absurd h (by decide)) (fun _ => ?_)
            refine wp_aload_n dX6_takesRecipe_56 rfl ?_
            refine wp_bipush (v := 43) dX6_takesRecipe_57 (by decide) ?_
            refine wp_cV1 (z := mX6_isNext) (n' := 243) kX6_180 dX6_takesRecipe_59 (Nat.le_of_ble_eq_true rfl) (Nat.le_of_ble_eq_true rfl) tA_235 (Nat.le_of_ble_eq_true rfl) (Nat.le_of_ble_eq_true rfl) (Nat.le_refl _) (Nat.le_refl _) (s_X6_isNext hM (hX5.un 3 0) hp (by omega) (by decide) (fun M6 hX6 => (wp_af ?_)))
            refine wp_bq_eq (tgt := 73) dX6_takesRecipe_62 (by decide) (fun h62 => ?_) (fun h62 => ?_)
            · rw [if_neg h62] at hX6
              have hQ := hX6
              have eR : rdR tx pl a = (some (t, s, v, p, 0), a3) := by simp only [rdR, e1, e2, e3, if_pos h28, e5, if_neg h62]
              refine wp_iconst (v := 1) dX6_takesRecipe_73 (by decide) ?_
              refine wp_goto (tgt := 78) dX6_takesRecipe_74 (by decide) ?_
              exact wp_iret dX6_takesRecipe_78 rfl rfl rfl (by
      first
        | (have := hK _ (rc_no eR hQ); rwa [b01_f (by rw [eR]; simp)] at this)
        | (have := hK _ (rc_ok eR hQ (by simp [up, Int32.one_mul]) (by simp [up]) (by simp [up, Int32.one_mul]) (by simp [up, Int32.one_mul, nI_0]) rfl); rwa [b01_t (by rw [eR]; rfl)] at this))
            · rw [if_pos h62] at hX6
              refine wp_aload_n dX6_takesRecipe_65 rfl ?_
              refine wp_iconst (v := 1) dX6_takesRecipe_66 (by decide) ?_
              refine wp_cV1 (z := mX6_takesNumber) (n' := 243) kX6_183 dX6_takesRecipe_67 (Nat.le_of_ble_eq_true rfl) (Nat.le_of_ble_eq_true rfl) tA_235 (Nat.le_of_ble_eq_true rfl) (Nat.le_of_ble_eq_true rfl) (Nat.le_refl _) (Nat.le_refl _) (s_X6_takesNumber hM hX6 hp (by omega) (by decide) (fun M7 hX7 => (wp_af ?_)))
              refine wp_bq_eq (tgt := 77) dX6_takesRecipe_70 (by decide) (fun h70 => ?_) (fun h70 => ?_)
              · have e7 := not_some h70
                have hQ := hX7.1 e7
                have eR : rdR tx pl a = (none, a3 + 1) := by simp only [rdR, e1, e2, e3, if_pos h28, e5, if_pos h62, e7]
                refine wp_iconst (v := 0) dX6_takesRecipe_77 (by decide) ?_
                exact wp_iret dX6_takesRecipe_78 rfl rfl rfl (by
      first
        | (have := hK _ (rc_no eR hQ); rwa [b01_f (by rw [eR]; simp)] at this)
        | (have := hK _ (rc_ok eR hQ (by simp [up, Int32.one_mul]) (by simp [up]) (by simp [up, Int32.one_mul]) (by simp [up, Int32.one_mul, nI_0]) rfl); rwa [b01_t (by rw [eR]; rfl)] at this))
              · obtain ⟨⟨f, a4⟩, e7⟩ := some_of h70
                have hQ := hX7.2 f a4 e7
                have eR : rdR tx pl a = (some (t, s, v, p, f), a4) := by simp only [rdR, e1, e2, e3, if_pos h28, e5, if_pos h62, e7]
                refine wp_iconst (v := 1) dX6_takesRecipe_73 (by decide) ?_
                refine wp_goto (tgt := 78) dX6_takesRecipe_74 (by decide) ?_
                exact wp_iret dX6_takesRecipe_78 rfl rfl rfl (by
      first
        | (have := hK _ (rc_no eR hQ); rwa [b01_f (by rw [eR]; simp)] at this)
        | (have := hK _ (rc_ok eR hQ (by simp [up, Int32.one_mul]) (by simp [up]) (by simp [up, Int32.one_mul]) (by simp [up, Int32.one_mul, nI_0]) rfl); rwa [b01_t (by rw [eR]; rfl)] at this))

theorem ro_no {M0 M : Mm} {tx nb : Nat → Int32} {pl a e m : Nat} {lt so : Int32} (eR : rdO tx pl a = (none, e)) (h : PS M0 M tx pl e m nb lt so) : RO M0 M tx pl a := by
  refine ⟨m, nb, lt, so, by rw [eR]; exact h, fun k t s v p f h2 => ?_⟩
  rw [eR] at h2
  cases h2
theorem ro_p {M0 M : Mm} {tx : Nat → Int32} {pl a : Nat} {lt : Int32} (g : nx tx pl a 112) (hl : lt = 112) (h : RcP M0 M tx pl (a + 1) lt) : RO M0 M tx pl a := by
  subst hl
  obtain ⟨m, nb, so, h1, h2⟩ := h
  have eR : rdO tx pl a = ((rdR tx pl (a + 1)).1.map fun q => (112, q.1, q.2.1, q.2.2.1, q.2.2.2.1, q.2.2.2.2), (rdR tx pl (a + 1)).2) := by rw [rdO, if_pos g]
  refine ⟨m, nb, 112, so, by rw [eR]; exact h1, fun k t s v p f h3 => ?_⟩
  rw [eR] at h3
  obtain ⟨⟨t2, s2, v2, p2, f2⟩, h4, h5⟩ := Option.map_eq_some_iff.mp h3
  cases h5
  obtain ⟨a1, a2, a3, a4, a5⟩ := h2 _ _ _ _ _ h4
  exact ⟨rfl, a1, fun _ => ⟨a2, a3, a4, a5⟩, fun h => absurd h (by decide)⟩
theorem ro_some {M0 M : Mm} {tx nb : Nat → Int32} {pl a e m k t : Nat} {lt so v : Int32} (eR : rdO tx pl a = (some (k, t, 0, v, 0, 0), e)) (h : PS M0 M tx pl e m nb lt so) (hl : lt = nI k) (h0 : nb 0 = nI t) (hk : ¬ k = 112) (hv : k = 108 → nb 1 = v) : RO M0 M tx pl a := by
  refine ⟨m, nb, lt, so, by rw [eR]; exact h, fun k t s v p f h3 => ?_⟩
  rw [eR] at h3
  cases h3
  exact ⟨hl, h0, fun h => absurd h hk, hv⟩
theorem rdO_t {tx : Nat → Int32} {pl a t a1 k : Nat} (n1 : ¬ nx tx pl a 112) (n2 : ¬ nx tx pl a 108) (n3 : nx tx pl a 120 ∨ nx tx pl a 103 ∨ nx tx pl a 116) (n4 : (tx a).toNatClampNeg = k) (e : rdN tx pl (a + 1) = some (t, a1)) : rdO tx pl a = (some (k, t, 0, 0, 0, 0), a1) := by
  simp only [rdO, if_neg n1, if_neg n2, if_pos n3, e, n4]
theorem nx_ne {tx : Nat → Int32} {pl a : Nat} {c e : Int32} (g : nx tx pl a c) (h : ¬ c = e) : ¬ nx tx pl a e := fun q => h (g.2.symm.trans q.2)
set_option maxRecDepth 100000 in
set_option maxHeartbeats 4000000 in
theorem s_X6_readsOrder {γ : Gm} {l : Launch} {M : Mm} {R : Rm} {K : KT} {M0 : Mm} {tx nb : Nat → Int32} {pl a : Nat} {lt so : Int32} {m : Nat} (hM : RM R) (hX : PS M0 M tx pl a m nb lt so) (hp : pl ≤ 80) (ha : a ≤ 100) (hK : ∀ M1, RO M0 M1 tx pl a → K (some (.int (b01 ((rdO tx pl a).1.isSome = true)))) 243 M1 R) : CL γ l mX6_readsOrder 5 243 243 [.ref 235] M R K := by
  show WP γ l mX6_readsOrder 5 243 243 0 [some (.ref 235)] [] 243 M R K
  refine wp_aload_n dX6_readsOrder_0 rfl ?_
  refine wp_iconst (v := 0) dX6_readsOrder_1 (by decide) ?_
  refine wp_putI pX6_177 tA_235 rfl ⟨rfl, rfl⟩ (Nat.le_of_ble_eq_true rfl) dX6_readsOrder_2 ?_
  refine wp_aload_n dX6_readsOrder_5 rfl ?_
  refine wp_aload_n dX6_readsOrder_6 rfl ?_
  refine wp_aload_n dX6_readsOrder_7 rfl ?_
  refine wp_getJ (v := nI a) fX6_167 tA_235 rfl (Nat.le_of_ble_eq_true rfl) dX6_readsOrder_8 ((hX.u12 0).pa) ?_
  refine wp_cV1 (z := mX6_character) (n' := 243) kX6_170 dX6_readsOrder_11 (Nat.le_of_ble_eq_true rfl) (Nat.le_of_ble_eq_true rfl) tA_235 (Nat.le_of_ble_eq_true rfl) (Nat.le_of_ble_eq_true rfl) (Nat.le_refl _) (Nat.le_refl _) (s_X6_character hM (hX.u12 0).ptx (hX.u12 0).ppl hp (by omega) (wp_af ?_))
  refine wp_putI pX6_195 tA_235 rfl ⟨rfl, rfl⟩ (Nat.le_of_ble_eq_true rfl) dX6_readsOrder_14 ?_
  refine wp_aload_n dX6_readsOrder_17 rfl ?_
  refine wp_dup dX6_readsOrder_18 rfl ?_
  refine wp_getJ (v := nI a) fX6_167 tA_235 rfl (Nat.le_of_ble_eq_true rfl) dX6_readsOrder_19 (((hX.u12 0).u9 _).pa) ?_
  refine wp_iconst (v := 1) dX6_readsOrder_22 (by decide) ?_
  refine wp_iadd dX6_readsOrder_23 ?_
  refine wp_top (z := nI (a + 1)) (nI_1 a) ?_
  refine wp_putI pX6_167 tA_235 rfl ⟨rfl, rfl⟩ (Nat.le_of_ble_eq_true rfl) dX6_readsOrder_24 ?_
  have hS := ((hX.u12 0).u9 (chI tx pl a)).u8 (a + 1)
  refine wp_aload_n dX6_readsOrder_27 rfl ?_
  refine wp_getJ fX6_195 tA_235 rfl (Nat.le_of_ble_eq_true rfl) dX6_readsOrder_28 (hS.plt) ?_
  refine wp_lswitch [(103, 85), (108, 91), (112, 80), (116, 85), (120, 85)] 121 dX6_readsOrder_31 (by decide +kernel) (by decide +kernel) ?_
  refine wp_sw (fun h31_0 => ?_) (fun h31_0 => ?_)
  · have g := (chI_nx (by decide)).mp h31_0
    have n1 := nx_ne g (e := 112) (by decide)
    have n2 := nx_ne g (e := 108) (by decide)
    have n3 : nx tx pl a 120 ∨ nx tx pl a 103 ∨ nx tx pl a 116 := by first | exact Or.inl g | exact Or.inr (Or.inl g) | exact Or.inr (Or.inr g)
    have n4 : (tx a).toNatClampNeg = 103 := by rw [g.2]; decide
    have n5 : chI tx pl a = nI 103 := h31_0
    refine wp_aload_n dX6_readsOrder_85 rfl ?_
    refine wp_iconst (v := 1) dX6_readsOrder_86 (by decide) ?_
    refine wp_cV1 (z := mX6_takesNumber) (n' := 243) kX6_183 dX6_readsOrder_87 (Nat.le_of_ble_eq_true rfl) (Nat.le_of_ble_eq_true rfl) tA_235 (Nat.le_of_ble_eq_true rfl) (Nat.le_of_ble_eq_true rfl) (Nat.le_refl _) (Nat.le_refl _) (s_X6_takesNumber hM hS hp (by omega) (by decide) (fun M1 hX1 => (wp_af ?_)))
    exact wp_iret dX6_readsOrder_90 rfl b01_n rfl (by
      by_cases e1 : rdN tx pl (a + 1) = none
      · have eR : rdO tx pl a = (none, a + 1) := by simp only [rdO, if_neg n1, if_neg n2, if_pos n3, e1]
        have := hK M1 (ro_no eR (hX1.1 e1))
        rwa [b01_f (by rw [eR]; simp), ← b01_f (p := (rdN tx pl (a + 1)).isSome = true) (by rw [e1]; simp)] at this
      · obtain ⟨⟨t, a1⟩, e2⟩ := Option.ne_none_iff_exists'.mp e1
        have eR := rdO_t n1 n2 n3 n4 e2
        have := hK M1 (ro_some eR (hX1.2 t a1 e2) n5 (by simp [up, Int32.one_mul]) (by decide) (fun h => absurd h (by decide)))
        rwa [b01_t (by rw [eR]; rfl), ← b01_t (p := (rdN tx pl (a + 1)).isSome = true) (by rw [e2]; rfl)] at this)
  refine wp_sw (fun h31_1 => ?_) (fun h31_1 => ?_)
  · have g := (chI_nx (by decide)).mp h31_1
    have n1 := nx_ne g (e := 112) (by decide)
    have n5 : chI tx pl a = nI 108 := h31_1
    refine wp_aload_n dX6_readsOrder_91 rfl ?_
    refine wp_iconst (v := 1) dX6_readsOrder_92 (by decide) ?_
    refine wp_cV1 (z := mX6_takesNumber) (n' := 243) kX6_183 dX6_readsOrder_93 (Nat.le_of_ble_eq_true rfl) (Nat.le_of_ble_eq_true rfl) tA_235 (Nat.le_of_ble_eq_true rfl) (Nat.le_of_ble_eq_true rfl) (Nat.le_refl _) (Nat.le_refl _) (s_X6_takesNumber hM hS hp (by omega) (by decide) (fun M1 hX1 => (wp_af ?_)))
    refine wp_bq_eq (tgt := 119) dX6_readsOrder_96 (by decide) (fun h96 => ?_) (fun h96 => ?_)
    · have e1 := not_some h96
      have hQ := hX1.1 e1
      have eR : rdO tx pl a = (none, a + 1) := by simp only [rdO, if_neg n1, if_pos g, e1]
      refine wp_iconst (v := 0) dX6_readsOrder_119 (by decide) ?_
      exact wp_iret dX6_readsOrder_120 rfl rfl rfl (by
      first
        | (have := hK _ (ro_no eR hQ); rwa [b01_f (by rw [eR]; simp)] at this)
        | (have := hK _ (ro_some eR hQ n5 (by simp [up, Int32.one_mul]) (by decide) (fun _ => by simp [up])); rwa [b01_t (by rw [eR]; rfl)] at this))
    · obtain ⟨⟨t, a1⟩, e1⟩ := some_of h96
      replace hX1 := hX1.2 t a1 e1
      have b1 := rdN_in e1
      refine wp_aload_n dX6_readsOrder_99 rfl ?_
      refine wp_bipush (v := 61) dX6_readsOrder_100 (by decide) ?_
      refine wp_cV1 (z := mX6_isNext) (n' := 243) kX6_180 dX6_readsOrder_102 (Nat.le_of_ble_eq_true rfl) (Nat.le_of_ble_eq_true rfl) tA_235 (Nat.le_of_ble_eq_true rfl) (Nat.le_of_ble_eq_true rfl) (Nat.le_refl _) (Nat.le_refl _) (s_X6_isNext hM hX1 hp (by omega) (by decide) (fun M2 hX2 => (wp_af ?_)))
      refine wp_bq_eq (tgt := 119) dX6_readsOrder_105 (by decide) (fun h105 => ?_) (fun h105 => ?_)
      · rw [if_neg h105] at hX2
        have hQ := hX2
        have eR : rdO tx pl a = (none, a1) := by simp only [rdO, if_neg n1, if_pos g, e1, if_neg h105]
        refine wp_iconst (v := 0) dX6_readsOrder_119 (by decide) ?_
        exact wp_iret dX6_readsOrder_120 rfl rfl rfl (by
      first
        | (have := hK _ (ro_no eR hQ); rwa [b01_f (by rw [eR]; simp)] at this)
        | (have := hK _ (ro_some eR hQ n5 (by simp [up, Int32.one_mul]) (by decide) (fun _ => by simp [up])); rwa [b01_t (by rw [eR]; rfl)] at this))
      · rw [if_pos h105] at hX2
        refine wp_aload_n dX6_readsOrder_108 rfl ?_
        refine wp_cV0 (z := mX6_takesValue) (n' := 243) kX6_192 dX6_readsOrder_109 (Nat.le_of_ble_eq_true rfl) (Nat.le_of_ble_eq_true rfl) tA_235 (Nat.le_of_ble_eq_true rfl) (Nat.le_of_ble_eq_true rfl) (Nat.le_refl _) (Nat.le_refl _) (s_X6_takesValue hM hX2 hp (by omega) (by decide) (fun M3 hX3 => (wp_af ?_)))
        refine wp_bq_eq (tgt := 119) dX6_readsOrder_112 (by decide) (fun h112 => ?_) (fun h112 => ?_)
        · have e3 := not_some h112
          have hQ := hX3.1 e3
          have eR : rdO tx pl a = (none, vF tx pl (a1 + 1)) := by simp only [rdO, if_neg n1, if_pos g, e1, if_pos h105, e3]
          refine wp_iconst (v := 0) dX6_readsOrder_119 (by decide) ?_
          exact wp_iret dX6_readsOrder_120 rfl rfl rfl (by
      first
        | (have := hK _ (ro_no eR hQ); rwa [b01_f (by rw [eR]; simp)] at this)
        | (have := hK _ (ro_some eR hQ n5 (by simp [up, Int32.one_mul]) (by decide) (fun _ => by simp [up])); rwa [b01_t (by rw [eR]; rfl)] at this))
        · obtain ⟨⟨v, a2⟩, e3⟩ := some_of h112
          have hQ := hX3.2 v a2 e3
          have eR : rdO tx pl a = (some (108, t, 0, v, 0, 0), a2) := by simp only [rdO, if_neg n1, if_pos g, e1, if_pos h105, e3]
          refine wp_iconst (v := 1) dX6_readsOrder_115 (by decide) ?_
          refine wp_goto (tgt := 120) dX6_readsOrder_116 (by decide) ?_
          exact wp_iret dX6_readsOrder_120 rfl rfl rfl (by
      first
        | (have := hK _ (ro_no eR hQ); rwa [b01_f (by rw [eR]; simp)] at this)
        | (have := hK _ (ro_some eR hQ n5 (by simp [up, Int32.one_mul]) (by decide) (fun _ => by simp [up])); rwa [b01_t (by rw [eR]; rfl)] at this))
  refine wp_sw (fun h31_2 => ?_) (fun h31_2 => ?_)
  · have g := (chI_nx (by decide)).mp h31_2
    have n5 : chI tx pl a = 112 := h31_2
    refine wp_aload_n dX6_readsOrder_80 rfl ?_
    refine wp_cV0 (z := mX6_takesRecipe) (n' := 243) kX6_198 dX6_readsOrder_81 (Nat.le_of_ble_eq_true rfl) (Nat.le_of_ble_eq_true rfl) tA_235 (Nat.le_of_ble_eq_true rfl) (Nat.le_of_ble_eq_true rfl) (Nat.le_refl _) (Nat.le_refl _) (s_X6_takesRecipe hM hS hp (by omega) (fun M1 hX1 => (wp_af ?_)))
    exact wp_iret dX6_readsOrder_84 rfl b01_n rfl (by have := hK M1 (ro_p g n5 hX1); rwa [show (rdO tx pl a).1.isSome = (rdR tx pl (a + 1)).1.isSome by rw [rdO, if_pos g, Option.isSome_map]] at this)
  refine wp_sw (fun h31_3 => ?_) (fun h31_3 => ?_)
  · have g := (chI_nx (by decide)).mp h31_3
    have n1 := nx_ne g (e := 112) (by decide)
    have n2 := nx_ne g (e := 108) (by decide)
    have n3 : nx tx pl a 120 ∨ nx tx pl a 103 ∨ nx tx pl a 116 := by first | exact Or.inl g | exact Or.inr (Or.inl g) | exact Or.inr (Or.inr g)
    have n4 : (tx a).toNatClampNeg = 116 := by rw [g.2]; decide
    have n5 : chI tx pl a = nI 116 := h31_3
    refine wp_aload_n dX6_readsOrder_85 rfl ?_
    refine wp_iconst (v := 1) dX6_readsOrder_86 (by decide) ?_
    refine wp_cV1 (z := mX6_takesNumber) (n' := 243) kX6_183 dX6_readsOrder_87 (Nat.le_of_ble_eq_true rfl) (Nat.le_of_ble_eq_true rfl) tA_235 (Nat.le_of_ble_eq_true rfl) (Nat.le_of_ble_eq_true rfl) (Nat.le_refl _) (Nat.le_refl _) (s_X6_takesNumber hM hS hp (by omega) (by decide) (fun M1 hX1 => (wp_af ?_)))
    exact wp_iret dX6_readsOrder_90 rfl b01_n rfl (by
      by_cases e1 : rdN tx pl (a + 1) = none
      · have eR : rdO tx pl a = (none, a + 1) := by simp only [rdO, if_neg n1, if_neg n2, if_pos n3, e1]
        have := hK M1 (ro_no eR (hX1.1 e1))
        rwa [b01_f (by rw [eR]; simp), ← b01_f (p := (rdN tx pl (a + 1)).isSome = true) (by rw [e1]; simp)] at this
      · obtain ⟨⟨t, a1⟩, e2⟩ := Option.ne_none_iff_exists'.mp e1
        have eR := rdO_t n1 n2 n3 n4 e2
        have := hK M1 (ro_some eR (hX1.2 t a1 e2) n5 (by simp [up, Int32.one_mul]) (by decide) (fun h => absurd h (by decide)))
        rwa [b01_t (by rw [eR]; rfl), ← b01_t (p := (rdN tx pl (a + 1)).isSome = true) (by rw [e2]; rfl)] at this)
  refine wp_sw (fun h31_4 => ?_) (fun h31_4 => ?_)
  · have g := (chI_nx (by decide)).mp h31_4
    have n1 := nx_ne g (e := 112) (by decide)
    have n2 := nx_ne g (e := 108) (by decide)
    have n3 : nx tx pl a 120 ∨ nx tx pl a 103 ∨ nx tx pl a 116 := by first | exact Or.inl g | exact Or.inr (Or.inl g) | exact Or.inr (Or.inr g)
    have n4 : (tx a).toNatClampNeg = 120 := by rw [g.2]; decide
    have n5 : chI tx pl a = nI 120 := h31_4
    refine wp_aload_n dX6_readsOrder_85 rfl ?_
    refine wp_iconst (v := 1) dX6_readsOrder_86 (by decide) ?_
    refine wp_cV1 (z := mX6_takesNumber) (n' := 243) kX6_183 dX6_readsOrder_87 (Nat.le_of_ble_eq_true rfl) (Nat.le_of_ble_eq_true rfl) tA_235 (Nat.le_of_ble_eq_true rfl) (Nat.le_of_ble_eq_true rfl) (Nat.le_refl _) (Nat.le_refl _) (s_X6_takesNumber hM hS hp (by omega) (by decide) (fun M1 hX1 => (wp_af ?_)))
    exact wp_iret dX6_readsOrder_90 rfl b01_n rfl (by
      by_cases e1 : rdN tx pl (a + 1) = none
      · have eR : rdO tx pl a = (none, a + 1) := by simp only [rdO, if_neg n1, if_neg n2, if_pos n3, e1]
        have := hK M1 (ro_no eR (hX1.1 e1))
        rwa [b01_f (by rw [eR]; simp), ← b01_f (p := (rdN tx pl (a + 1)).isSome = true) (by rw [e1]; simp)] at this
      · obtain ⟨⟨t, a1⟩, e2⟩ := Option.ne_none_iff_exists'.mp e1
        have eR := rdO_t n1 n2 n3 n4 e2
        have := hK M1 (ro_some eR (hX1.2 t a1 e2) n5 (by simp [up, Int32.one_mul]) (by decide) (fun h => absurd h (by decide)))
        rwa [b01_t (by rw [eR]; rfl), ← b01_t (p := (rdN tx pl (a + 1)).isSome = true) (by rw [e2]; rfl)] at this)
  refine wp_sw0 ?_
  have m1 : ¬ nx tx pl a 112 := fun h => h31_2 ((chI_nx (by decide)).mpr h)
  have m2 : ¬ nx tx pl a 108 := fun h => h31_1 ((chI_nx (by decide)).mpr h)
  have m3 : ¬ (nx tx pl a 120 ∨ nx tx pl a 103 ∨ nx tx pl a 116) := fun h => h.elim (fun h => h31_4 ((chI_nx (by decide)).mpr h)) (fun h => h.elim (fun h => h31_0 ((chI_nx (by decide)).mpr h)) (fun h => h31_3 ((chI_nx (by decide)).mpr h)))
  refine wp_aload_n dX6_readsOrder_121 rfl ?_
  refine wp_dup dX6_readsOrder_122 rfl ?_
  refine wp_getJ (v := nI (a + 1)) fX6_167 tA_235 rfl (Nat.le_of_ble_eq_true rfl) dX6_readsOrder_123 (hS.pa) ?_
  refine wp_iconst (v := 1) dX6_readsOrder_126 (by decide) ?_
  refine wp_isub dX6_readsOrder_127 ?_
  refine wp_top (z := nI a) (nI_m1 a) ?_
  refine wp_putI pX6_167 tA_235 rfl ⟨rfl, rfl⟩ (Nat.le_of_ble_eq_true rfl) dX6_readsOrder_128 ?_
  refine wp_iconst (v := 0) dX6_readsOrder_131 (by decide) ?_
  exact wp_iret dX6_readsOrder_132 rfl rfl rfl (by
      have eR : rdO tx pl a = (none, a) := by rw [rdO, if_neg m1, if_neg m2, if_neg m3]
      have := hK _ (ro_no eR (hS.u8 a)); rwa [b01_f (by rw [eR]; simp)] at this)

theorem rdR_in {tx : Nat → Int32} {pl a e t s p f : Nat} {v : Int32} (h : rdR tx pl a = (some (t, s, v, p, f), e)) : a < e ∧ e ≤ pl := by
  unfold rdR at h
  split at h
  · cases h
  · rename_i t a1 e1
    have b1 := rdN_in e1
    split at h
    · cases h
    · rename_i s e2
      split at h
      · cases h
      · rename_i v a2 e3
        have b3 := rdV_in e3
        split at h
        · split at h
          · cases h
          · rename_i p a3 e5
            have b5 := rdN_in e5
            split at h
            · split at h
              · cases h
              · rename_i f a4 e7
                have b7 := rdN_in e7
                cases h
                omega
            · cases h
              omega
        · cases h
theorem rdO_in {tx : Nat → Int32} {pl a e k t s p f : Nat} {v : Int32} (h : rdO tx pl a = (some (k, t, s, v, p, f), e)) : a < e ∧ e ≤ pl ∧ (k = 112 ∨ k = 108 ∨ k = 120 ∨ k = 103 ∨ k = 116) := by
  unfold rdO at h
  by_cases h1 : nx tx pl a 112
  · rw [if_pos h1] at h
    obtain ⟨h2, h3⟩ := Prod.mk.inj h
    obtain ⟨⟨t2, s2, v2, p2, f2⟩, h4, h5⟩ := Option.map_eq_some_iff.mp h2
    cases h5
    have := rdR_in (show rdR tx pl (a + 1) = (some (t2, s2, v2, p2, f2), e) by rw [← h4, ← h3])
    omega
  · rw [if_neg h1] at h
    by_cases h2 : nx tx pl a 108
    · rw [if_pos h2] at h
      split at h
      · cases h
      · rename_i t a1 e1
        have b1 := rdN_in e1
        split at h
        · split at h
          · cases h
          · rename_i v a2 e3
            have b3 := rdV_in e3
            cases h
            omega
        · cases h
    · rw [if_neg h2] at h
      by_cases h3 : nx tx pl a 120 ∨ nx tx pl a 103 ∨ nx tx pl a 116
      · rw [if_pos h3] at h
        have h4 : (tx a).toNatClampNeg = 120 ∨ (tx a).toNatClampNeg = 103 ∨ (tx a).toNatClampNeg = 116 := by
          rcases h3 with g | g | g <;> rw [g.2] <;> decide
        split at h
        · cases h
        · rename_i t a1 e1
          have b1 := rdN_in e1
          cases h
          omega
      · rw [if_neg h3] at h
        cases h
/-- the fault of a text: its index, -6 if there is none -/
def ffF (tx : Nat → Int32) (pl : Nat) : Nat → Nat → Int32
  | 0, _ => -6
  | q + 1, a => if (rdO tx pl a).1.isSome = true then if (rdO tx pl a).2 = pl then -6 else if nx tx pl (rdO tx pl a).2 59 then ffF tx pl q ((rdO tx pl a).2 + 1) else nI (rdO tx pl a).2 else nI (rdO tx pl a).2
set_option maxRecDepth 100000 in
set_option maxHeartbeats 4000000 in
theorem s_X6_findFault {γ : Gm} {l : Launch} {M : Mm} {R : Rm} {K : KT} {M0 : Mm} {tx nb : Nat → Int32} {pl a : Nat} {lt so : Int32} {m : Nat} (hM : RM R) (hX : PS M0 M tx pl a m nb lt so) (hp : pl ≤ 80) (hK : ∀ M1 m nb lt so e, PS M0 M1 tx pl e m nb lt so → K (some (.int (ffF tx pl 82 0))) 243 M1 R) : CL γ l mX6_findFault 6 243 243 [.ref 235] M R K := by
  show WP γ l mX6_findFault 6 243 243 0 [some (.ref 235)] [] 243 M R K
  have loop : ∀ (q b : Nat) (M1 : Mm) (m1 : Nat) (nb1 : Nat → Int32) (lt1 so1 : Int32), ffF tx pl q b = ffF tx pl 82 0 → b ≤ pl → pl - b < q → PS M0 M1 tx pl b m1 nb1 lt1 so1 → WP γ l mX6_findFault 6 243 243 5 [some (.ref 235)] [] 243 M1 R K := by
    intro q
    induction q with
    | zero => intro b M1 m1 nb1 lt1 so1 _ _ h; omega
    | succ q ih =>
      intro b M1 m1 nb1 lt1 so1 hff hb hq h1
      rw [ffF] at hff
      refine wp_aload_n dX6_findFault_5 rfl ?_
      refine wp_cV0 (z := mX6_readsOrder) (n' := 243) kX6_201 dX6_findFault_6 (Nat.le_of_ble_eq_true rfl) (Nat.le_of_ble_eq_true rfl) tA_235 (Nat.le_of_ble_eq_true rfl) (Nat.le_of_ble_eq_true rfl) (Nat.le_refl _) (Nat.le_refl _) (s_X6_readsOrder hM h1 hp (by omega) (fun M3 hX3 => (wp_af ?_)))
      obtain ⟨m3, nb3, lt3, so3, h3, h4⟩ := hX3
      refine wp_bq_ne (tgt := 17) dX6_findFault_9 (by decide) (fun h9 => ?_) (fun h9 => ?_)
      · obtain ⟨⟨k, t, s, v, p, f⟩, e1⟩ := some_of h9
        obtain ⟨e, e2⟩ : ∃ e, e = (rdO tx pl b).2 := ⟨_, rfl⟩
        have hb2 := rdO_in (show rdO tx pl b = (some (k, t, s, v, p, f), e) by rw [← e1, e2])
        rw [if_pos h9, ← e2] at hff
        rw [← e2] at h3
        refine wp_aload_n dX6_findFault_17 rfl ?_
        refine wp_getJ (v := nI e) fX6_167 tA_235 rfl (Nat.le_of_ble_eq_true rfl) dX6_findFault_18 (h3.pa) ?_
        refine wp_aload_n dX6_findFault_21 rfl ?_
        refine wp_getJ (v := nI pl) fX6_162 tA_235 rfl (Nat.le_of_ble_eq_true rfl) dX6_findFault_22 (h3.ppl) ?_
        refine wp_icN_ne (a := e) (b := pl) (tgt := 31) dX6_findFault_25 (by decide) rfl rfl (by omega) (by omega) (fun h25 => ?_) (fun h25 => ?_)
        · rw [if_neg (by omega)] at hff
          refine wp_aload_n dX6_findFault_31 rfl ?_
          refine wp_bipush (v := 59) dX6_findFault_32 (by decide) ?_
          refine wp_cV1 (z := mX6_isNext) (n' := 243) kX6_180 dX6_findFault_34 (Nat.le_of_ble_eq_true rfl) (Nat.le_of_ble_eq_true rfl) tA_235 (Nat.le_of_ble_eq_true rfl) (Nat.le_of_ble_eq_true rfl) (Nat.le_refl _) (Nat.le_refl _) (s_X6_isNext hM h3 hp (by omega) (by decide) (fun M5 hX5 => (wp_af ?_)))
          refine wp_bq_ne (tgt := 5) dX6_findFault_37 (by decide) (fun h37 => ?_) (fun h37 => ?_)
          · rw [if_pos h37] at hff hX5
            exact ih (e + 1) _ _ _ _ _ hff (by have := h37.1; omega) (by omega) hX5
          · rw [if_neg h37] at hff hX5
            refine wp_aload_n dX6_findFault_40 rfl ?_
            refine wp_getJ fX6_167 tA_235 rfl (Nat.le_of_ble_eq_true rfl) dX6_findFault_41 (hX5.pa) ?_
            exact wp_iret dX6_findFault_44 rfl rfl rfl (hff ▸ hK _ _ _ _ _ _ hX5)
        · rw [if_pos (by omega)] at hff
          refine wp_bipush (v := (-6)) dX6_findFault_28 (by decide) ?_
          exact wp_iret dX6_findFault_30 rfl rfl rfl (hff ▸ hK _ _ _ _ _ _ h3)
      · rw [if_neg h9] at hff
        refine wp_aload_n dX6_findFault_12 rfl ?_
        refine wp_getJ fX6_167 tA_235 rfl (Nat.le_of_ble_eq_true rfl) dX6_findFault_13 (h3.pa) ?_
        exact wp_iret dX6_findFault_16 rfl rfl rfl (hff ▸ hK _ _ _ _ _ _ h3)
  refine wp_aload_n dX6_findFault_0 rfl ?_
  refine wp_iconst (v := 0) dX6_findFault_1 (by decide) ?_
  refine wp_putI pX6_167 tA_235 rfl ⟨rfl, rfl⟩ (Nat.le_of_ble_eq_true rfl) dX6_findFault_2 ?_
  exact loop 82 0 _ _ _ _ _ rfl (by omega) (by omega) (hX.u8 0)

set_option maxRecDepth 100000 in
set_option maxHeartbeats 4000000 in
theorem s_X6_fault {γ : Gm} {l : Launch} {M : Mm} {R : Rm} {K : KT} {M0 : Mm} {tx nb : Nat → Int32} {pl a : Nat} {lt so : Int32} {m : Nat} (hM : RM R) (hX : PS M0 M tx pl a m nb lt so) (hp : pl ≤ 80) (hK : ∀ M1 m nb lt so e, PS M0 M1 tx pl e m nb lt so → K (some (.int (ffF tx pl 82 0))) 243 M1 R) : CL γ l mX6_fault 7 243 243 [.ref 235] M R K := by
  show WP γ l mX6_fault 7 243 243 0 [some (.ref 235)] [] 243 M R K
  refine wp_aload_n dX6_fault_0 rfl ?_
  refine wp_cV0 (z := mX6_findFault) (n' := 243) kX6_204 dX6_fault_1 (Nat.le_of_ble_eq_true rfl) (Nat.le_of_ble_eq_true rfl) tA_235 (Nat.le_of_ble_eq_true rfl) (Nat.le_of_ble_eq_true rfl) (Nat.le_refl _) (Nat.le_refl _) (s_X6_findFault hM hX hp (fun M1 m1 nb1 lt1 so1 e1 h1 => (wp_af ?_)))
  exact wp_iret dX6_fault_4 rfl rfl rfl (hK _ _ _ _ _ _ h1)

