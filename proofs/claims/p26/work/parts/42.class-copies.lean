/-! THE CLASS: copies -/
set_option maxRecDepth 100000 in
set_option maxHeartbeats 4000000 in
theorem s_X0_copyFrom {γ : Gm} {l : Launch} {M : Mm} {R : Rm} {K : KT} {b c g : Nat}  (hT : Tb b) (hR : RT R b) (hU : Tb c) (hQ : RT R c) (hg : g < 4) (hbc : b + 20 ≤ c ∨ c + 20 ≤ b) (hK : ∀ M1, (∀ a, a ≠ b + 12 + 2 * g → a ≠ b + 13 + 2 * g → M1 a = M a) → (∀ j, 1 ≤ j → j < 4 → M1 (b + 12 + 2 * g) j = M (c + 12 + 2 * g) j) → (∀ j, j < 60 → M1 (b + 13 + 2 * g) j = M (c + 13 + 2 * g) j) → K none 247 M1 R) : CL γ l mX0_copyFrom 1 247 247 [.ref (b + 12 + 2 * g), .ref (c + 12 + 2 * g)] M R K := by
  show WP γ l mX0_copyFrom 1 247 247 0 [some (.ref (b + 12 + 2 * g)), some (.ref (c + 12 + 2 * g))] [] 247 M R K
  refine wp_aload_n dX0_copyFrom_0 rfl ?_
  refine wp_getQ fX0_9 (hU.tg0 hg).1 rfl (hQ.2.1 g hg).2 (by omega) (by have := hU.lt; omega) dX0_copyFrom_1 ?_
  refine wp_iconst (v := 0) dX0_copyFrom_4 (by decide) ?_
  refine wp_aload_n dX0_copyFrom_5 rfl ?_
  refine wp_getQ fX0_9 (hT.tg0 hg).1 rfl (hR.2.1 g hg).2 (by omega) (by have := hT.lt; omega) dX0_copyFrom_6 ?_
  refine wp_iconst (v := 0) dX0_copyFrom_9 (by decide) ?_
  refine wp_bipush (v := 60) dX0_copyFrom_10 (by decide) ?_
  refine wp_copy (a := (c + 13 + 2 * g)) (b := (b + 13 + 2 * g)) (i := 0) (j := 0) (k := 60) rfl rfl rfl (hU.tg1 hg).1 (hT.tg1 hg).1 (by have := hU.lt; omega) (by have := hT.lt; omega) (by rw [(hU.tg1 hg).2]; decide) (by rw [(hT.tg1 hg).2]; decide) (by have := hU.lt; omega) (by have := hT.lt; omega) (by decide) (by simp) q215 dX0_copyFrom_12 ?_
  refine wp_aload_n dX0_copyFrom_15 rfl ?_
  refine wp_aload_n dX0_copyFrom_16 rfl ?_
  refine wp_getI fX0_21 (hU.tg0 hg).1 rfl (by have := hU.lt; omega) dX0_copyFrom_17 ?_
  refine wp_putI pX0_21 (hT.tg0 hg).1 rfl ⟨rfl, rfl⟩ (by have := hT.lt; omega) dX0_copyFrom_20 ?_
  refine wp_aload_n dX0_copyFrom_23 rfl ?_
  refine wp_aload_n dX0_copyFrom_24 rfl ?_
  refine wp_getI fX0_25 (hU.tg0 hg).1 rfl (by have := hU.lt; omega) dX0_copyFrom_25 ?_
  refine wp_putI pX0_25 (hT.tg0 hg).1 rfl ⟨rfl, rfl⟩ (by have := hT.lt; omega) dX0_copyFrom_28 ?_
  refine wp_aload_n dX0_copyFrom_31 rfl ?_
  refine wp_aload_n dX0_copyFrom_32 rfl ?_
  refine wp_getI fX0_28 (hU.tg0 hg).1 rfl (by have := hU.lt; omega) dX0_copyFrom_33 ?_
  refine wp_putI pX0_28 (hT.tg0 hg).1 rfl ⟨rfl, rfl⟩ (by have := hT.lt; omega) dX0_copyFrom_36 ?_
  exact wp_vret dX0_copyFrom_39 rfl rfl (hK _ (fun a a1 a2 => by rw [u2_n _ _ _ a1, u2_n _ _ _ a1, u2_n _ _ _ a1, up_n _ _ a2]) (fun j j1 j2 => by
      have e : ∀ (X : Mm) (k : Nat) (v : Int32), (u2 X (b + 12 + 2 * g) k v) (c + 12 + 2 * g) = X (c + 12 + 2 * g) := fun X k v => u2_n _ _ _ (by omega)
      have e2 : ∀ w : Nat → Int32, (up M (b + 13 + 2 * g) w) (c + 12 + 2 * g) = M (c + 12 + 2 * g) := fun w => up_n _ _ (by omega)
      simp only [e, e2, u2_s]
      rcases (by omega : j = 1 ∨ j = 2 ∨ j = 3) with h | h | h <;> subst h <;> simp [up]) (fun j hj => by rw [u2_n _ _ _ (by omega), u2_n _ _ _ (by omega), u2_n _ _ _ (by omega), up_s, va_cpy, if_pos (by omega)]; simp))
