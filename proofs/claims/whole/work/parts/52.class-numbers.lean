/-! THE CLASS: the reading of numbers -/
/-- M is M0 but for the pad's numbers: at a; kind, target, sort, value, period, phase -/
def PD (M0 M : Mm) (tx : Nat → Int32) (pl a : Nat) (k t s v p f : Int32) : Prop := (∀ q, q ≠ 29 → M q = M0 q) ∧ M 29 1 = nI pl ∧ M 29 2 = nI a ∧ (M 29 3 = k ∧ M 29 4 = t ∧ M 29 5 = s ∧ M 29 6 = v ∧ M 29 7 = p ∧ M 29 8 = f) ∧ ∀ i, i < pl → M0 30 i = tx i
section
variable {M0 M : Mm} {tx : Nat → Int32} {pl a : Nat} {k t s v p f : Int32}
theorem PD.ppl (h : PD M0 M tx pl a k t s v p f) : M 29 1 = nI pl := h.2.1
theorem PD.pa (h : PD M0 M tx pl a k t s v p f) : M 29 2 = nI a := h.2.2.1
theorem PD.sg (h : PD M0 M tx pl a k t s v p f) {i : Nat} (hi : i < pl) : M 30 i = tx i := by rw [h.1 30 (by decide)]; exact h.2.2.2.2 i hi
theorem PD.pk (h : PD M0 M tx pl a k t s v p f) : M 29 3 = k := h.2.2.2.1.1
theorem PD.pt (h : PD M0 M tx pl a k t s v p f) : M 29 4 = t := h.2.2.2.1.2.1
theorem PD.ps (h : PD M0 M tx pl a k t s v p f) : M 29 5 = s := h.2.2.2.1.2.2.1
theorem PD.pv (h : PD M0 M tx pl a k t s v p f) : M 29 6 = v := h.2.2.2.1.2.2.2.1
theorem PD.pp (h : PD M0 M tx pl a k t s v p f) : M 29 7 = p := h.2.2.2.1.2.2.2.2.1
theorem PD.pf (h : PD M0 M tx pl a k t s v p f) : M 29 8 = f := h.2.2.2.1.2.2.2.2.2
theorem PD.w2 (h : PD M0 M tx pl a k t s v p f) (e : Nat) : PD M0 (u2 M 29 2 (nI e)) tx pl e k t s v p f := by
  obtain ⟨g, h1, h2, ⟨h3, h4, h5, h6, h7, h8⟩, h9⟩ := h
  exact ⟨fun q hq => by rw [u2_n _ _ _ hq]; exact g q hq, by rw [u2_s, up_n _ _ (by decide)]; exact h1, by rw [u2_s, up_s], ⟨by rw [u2_s, up_n _ _ (by decide)]; exact h3, by rw [u2_s, up_n _ _ (by decide)]; exact h4, by rw [u2_s, up_n _ _ (by decide)]; exact h5, by rw [u2_s, up_n _ _ (by decide)]; exact h6, by rw [u2_s, up_n _ _ (by decide)]; exact h7, by rw [u2_s, up_n _ _ (by decide)]; exact h8⟩, h9⟩
theorem PD.w3 (h : PD M0 M tx pl a k t s v p f) (e : Int32) : PD M0 (u2 M 29 3 e) tx pl a e t s v p f := by
  obtain ⟨g, h1, h2, ⟨h3, h4, h5, h6, h7, h8⟩, h9⟩ := h
  exact ⟨fun q hq => by rw [u2_n _ _ _ hq]; exact g q hq, by rw [u2_s, up_n _ _ (by decide)]; exact h1, by rw [u2_s, up_n _ _ (by decide)]; exact h2, ⟨by rw [u2_s, up_s], by rw [u2_s, up_n _ _ (by decide)]; exact h4, by rw [u2_s, up_n _ _ (by decide)]; exact h5, by rw [u2_s, up_n _ _ (by decide)]; exact h6, by rw [u2_s, up_n _ _ (by decide)]; exact h7, by rw [u2_s, up_n _ _ (by decide)]; exact h8⟩, h9⟩
theorem PD.w4 (h : PD M0 M tx pl a k t s v p f) (e : Int32) : PD M0 (u2 M 29 4 e) tx pl a k e s v p f := by
  obtain ⟨g, h1, h2, ⟨h3, h4, h5, h6, h7, h8⟩, h9⟩ := h
  exact ⟨fun q hq => by rw [u2_n _ _ _ hq]; exact g q hq, by rw [u2_s, up_n _ _ (by decide)]; exact h1, by rw [u2_s, up_n _ _ (by decide)]; exact h2, ⟨by rw [u2_s, up_n _ _ (by decide)]; exact h3, by rw [u2_s, up_s], by rw [u2_s, up_n _ _ (by decide)]; exact h5, by rw [u2_s, up_n _ _ (by decide)]; exact h6, by rw [u2_s, up_n _ _ (by decide)]; exact h7, by rw [u2_s, up_n _ _ (by decide)]; exact h8⟩, h9⟩
theorem PD.w5 (h : PD M0 M tx pl a k t s v p f) (e : Int32) : PD M0 (u2 M 29 5 e) tx pl a k t e v p f := by
  obtain ⟨g, h1, h2, ⟨h3, h4, h5, h6, h7, h8⟩, h9⟩ := h
  exact ⟨fun q hq => by rw [u2_n _ _ _ hq]; exact g q hq, by rw [u2_s, up_n _ _ (by decide)]; exact h1, by rw [u2_s, up_n _ _ (by decide)]; exact h2, ⟨by rw [u2_s, up_n _ _ (by decide)]; exact h3, by rw [u2_s, up_n _ _ (by decide)]; exact h4, by rw [u2_s, up_s], by rw [u2_s, up_n _ _ (by decide)]; exact h6, by rw [u2_s, up_n _ _ (by decide)]; exact h7, by rw [u2_s, up_n _ _ (by decide)]; exact h8⟩, h9⟩
theorem PD.w6 (h : PD M0 M tx pl a k t s v p f) (e : Int32) : PD M0 (u2 M 29 6 e) tx pl a k t s e p f := by
  obtain ⟨g, h1, h2, ⟨h3, h4, h5, h6, h7, h8⟩, h9⟩ := h
  exact ⟨fun q hq => by rw [u2_n _ _ _ hq]; exact g q hq, by rw [u2_s, up_n _ _ (by decide)]; exact h1, by rw [u2_s, up_n _ _ (by decide)]; exact h2, ⟨by rw [u2_s, up_n _ _ (by decide)]; exact h3, by rw [u2_s, up_n _ _ (by decide)]; exact h4, by rw [u2_s, up_n _ _ (by decide)]; exact h5, by rw [u2_s, up_s], by rw [u2_s, up_n _ _ (by decide)]; exact h7, by rw [u2_s, up_n _ _ (by decide)]; exact h8⟩, h9⟩
theorem PD.w7 (h : PD M0 M tx pl a k t s v p f) (e : Int32) : PD M0 (u2 M 29 7 e) tx pl a k t s v e f := by
  obtain ⟨g, h1, h2, ⟨h3, h4, h5, h6, h7, h8⟩, h9⟩ := h
  exact ⟨fun q hq => by rw [u2_n _ _ _ hq]; exact g q hq, by rw [u2_s, up_n _ _ (by decide)]; exact h1, by rw [u2_s, up_n _ _ (by decide)]; exact h2, ⟨by rw [u2_s, up_n _ _ (by decide)]; exact h3, by rw [u2_s, up_n _ _ (by decide)]; exact h4, by rw [u2_s, up_n _ _ (by decide)]; exact h5, by rw [u2_s, up_n _ _ (by decide)]; exact h6, by rw [u2_s, up_s], by rw [u2_s, up_n _ _ (by decide)]; exact h8⟩, h9⟩
theorem PD.w8 (h : PD M0 M tx pl a k t s v p f) (e : Int32) : PD M0 (u2 M 29 8 e) tx pl a k t s v p e := by
  obtain ⟨g, h1, h2, ⟨h3, h4, h5, h6, h7, h8⟩, h9⟩ := h
  exact ⟨fun q hq => by rw [u2_n _ _ _ hq]; exact g q hq, by rw [u2_s, up_n _ _ (by decide)]; exact h1, by rw [u2_s, up_n _ _ (by decide)]; exact h2, ⟨by rw [u2_s, up_n _ _ (by decide)]; exact h3, by rw [u2_s, up_n _ _ (by decide)]; exact h4, by rw [u2_s, up_n _ _ (by decide)]; exact h5, by rw [u2_s, up_n _ _ (by decide)]; exact h6, by rw [u2_s, up_n _ _ (by decide)]; exact h7, by rw [u2_s, up_s]⟩, h9⟩
end
def chC (tx : Nat → Int32) (pl a : Nat) : Int32 := if a < pl then tx a else 0
theorem chC_nx {tx : Nat → Int32} {pl a : Nat} {c : Int32} (hc : ¬ c = 0) : chC tx pl a = c ↔ nx tx pl a c := by
  unfold chC
  by_cases h : a < pl
  · rw [if_pos h]
    exact ⟨fun e => ⟨h, e⟩, fun e => e.2⟩
  · rw [if_neg h]
    exact ⟨fun e => absurd e.symm hc, fun e => absurd e.1 h⟩
theorem chC_dg {tx : Nat → Int32} {pl a : Nat} : (48 ≤ chC tx pl a ∧ chC tx pl a ≤ 57) ↔ dg tx pl a := by
  unfold chC
  by_cases h : a < pl
  · rw [if_pos h]
    exact ⟨fun e => ⟨h, e⟩, fun e => e.2⟩
  · rw [if_neg h]
    exact ⟨fun e => absurd e.1 (by decide), fun e => absurd e.1 h⟩
theorem chC_I {tx : Nat → Int32} {pl a : Nat} (h : a < pl) : chC tx pl a = chI tx pl a := by rw [chC, chI, if_pos h, if_pos h]
theorem dgc_dn {tx : Nat → Int32} {pl a : Nat} (h : dg tx pl a) : chC tx pl a - 48 = nI (dn tx a) := by rw [chC_I h.1]; exact (dg_dn h).1
theorem dgc_more {tx : Nat → Int32} {pl e v : Nat} (h : dg tx pl e) : (10 : Int32) * nI v + chC tx pl e - 48 = nI (10 * v + dn tx e) := by rw [chC_I h.1]; exact dg_more h
/-- the number read at a, -3 if there is none; where the reading is then -/
def rnV (tx : Nat → Int32) (pl a : Nat) : Int32 := match rdN tx pl a with
  | none => -3
  | some q => nI q.1
def rnE (tx : Nat → Int32) (pl a : Nat) : Nat := match rdN tx pl a with
  | none => a
  | some q => q.2
theorem rn_none {tx : Nat → Int32} {pl a : Nat} (h : rdN tx pl a = none) : rnV tx pl a = -3 ∧ rnE tx pl a = a := by
  unfold rnV rnE
  rw [h]
  exact ⟨rfl, rfl⟩
theorem rn_some {tx : Nat → Int32} {pl a v e : Nat} (h : rdN tx pl a = some (v, e)) : rnV tx pl a = nI v ∧ rnE tx pl a = e := by
  unfold rnV rnE
  rw [h]
  exact ⟨rfl, rfl⟩
theorem rn_lt {tx : Nat → Int32} {pl a : Nat} (h : rnV tx pl a < 0) : rdN tx pl a = none := by
  rcases e : rdN tx pl a with _ | ⟨v, c⟩
  · rfl
  · have := rdN_in e
    rw [(rn_some e).1] at h
    exact absurd h (nI_pos (by omega))
theorem rn_ge {tx : Nat → Int32} {pl a : Nat} (h : ¬ rnV tx pl a < 0) : ∃ v e, rdN tx pl a = some (v, e) := by
  rcases e : rdN tx pl a with _ | ⟨v, c⟩
  · rw [(rn_none e).1] at h
    exact absurd (by decide) h
  · exact ⟨v, c, rfl⟩
theorem rn_le {tx : Nat → Int32} {pl a : Nat} : a ≤ rnE tx pl a ∧ rnE tx pl a ≤ a + 3 := by
  rcases e : rdN tx pl a with _ | ⟨v, c⟩
  · rw [(rn_none e).2]
    omega
  · have := rdN_in e
    rw [(rn_some e).2]
    omega
set_option maxRecDepth 100000 in
set_option maxHeartbeats 4000000 in
theorem s_X2_signHere {γ : Gm} {l : Launch} {M : Mm} {R : Rm} {K : KT} {M0 : Mm} {tx : Nat → Int32} {pl a : Nat} {k t s v p f : Int32}  (hC : RC R) (hX : PD M0 M tx pl a k t s v p f) (hp : pl ≤ 80) (ha : a ≤ 201) (hK : K (some (.int (chC tx pl a))) 243 M R) : CL γ l mX2_signHere 0 243 243 [.ref 29] M R K := by
  show WP γ l mX2_signHere 0 243 243 0 [some (.ref 29)] [] 243 M R K
  refine wp_aload_n dX2_signHere_0 rfl ?_
  refine wp_getJ (v := nI a) fX2_25 tA_29 rfl (Nat.le_of_ble_eq_true rfl) dX2_signHere_1 (hX.pa) ?_
  refine wp_aload_n dX2_signHere_4 rfl ?_
  refine wp_getJ (v := nI pl) fX2_19 tA_29 rfl (Nat.le_of_ble_eq_true rfl) dX2_signHere_5 (hX.ppl) ?_
  refine wp_icN_ge (a := a) (b := pl) (tgt := 23) dX2_signHere_8 (by decide) rfl rfl (by omega) (by omega) (fun h8 => ?_) (fun h8 => ?_)
  · refine wp_iconst (v := 0) dX2_signHere_23 (by decide) ?_
    exact wp_iret dX2_signHere_24 rfl rfl rfl (by first | (rw [chC, if_neg (by omega)] at hK; exact hK) | (rw [chC, if_pos h8] at hK; rw [hX.sg h8]; exact hK))
  · refine wp_aload_n dX2_signHere_11 rfl ?_
    refine wp_getQ fX2_9 tA_29 rfl hC.p (by decide) (Nat.le_of_ble_eq_true rfl) dX2_signHere_12 ?_
    refine wp_aload_n dX2_signHere_15 rfl ?_
    refine wp_getJ (v := nI a) fX2_25 tA_29 rfl (Nat.le_of_ble_eq_true rfl) dX2_signHere_16 (hX.pa) ?_
    refine wp_cald (i := a) rfl tA_30 (Nat.le_of_ble_eq_true rfl) (by rw [lA_30]; omega) (Nat.le_of_ble_eq_true rfl) dX2_signHere_19 ?_
    refine wp_goto (tgt := 24) dX2_signHere_20 (by decide) ?_
    exact wp_iret dX2_signHere_24 rfl rfl rfl (by first | (rw [chC, if_neg (by omega)] at hK; exact hK) | (rw [chC, if_pos h8] at hK; rw [hX.sg h8]; exact hK))

set_option maxRecDepth 100000 in
set_option maxHeartbeats 4000000 in
theorem s_X2_isDigitHere {γ : Gm} {l : Launch} {M : Mm} {R : Rm} {K : KT} {M0 : Mm} {tx : Nat → Int32} {pl a : Nat} {k t s v p f : Int32}  (hC : RC R) (hX : PD M0 M tx pl a k t s v p f) (hp : pl ≤ 80) (ha : a ≤ 201) (hK : K (some (.int (b01 (dg tx pl a)))) 243 M R) : CL γ l mX2_isDigitHere 1 243 243 [.ref 29] M R K := by
  show WP γ l mX2_isDigitHere 1 243 243 0 [some (.ref 29)] [] 243 M R K
  refine wp_aload_n dX2_isDigitHere_0 rfl ?_
  refine wp_cV0 (z := mX2_signHere) (n' := 243) kX2_36 dX2_isDigitHere_1 (Nat.le_of_ble_eq_true rfl) (Nat.le_of_ble_eq_true rfl) tA_29 (Nat.le_of_ble_eq_true rfl) (Nat.le_of_ble_eq_true rfl) (Nat.le_refl _) (Nat.le_refl _) (s_X2_signHere hC hX hp ha (wp_af ?_))
  refine wp_bipush (v := 48) dX2_isDigitHere_4 (by decide) ?_
  refine wp_icmp_lt (tgt := 22) dX2_isDigitHere_6 (by decide) (fun h6 => ?_) (fun h6 => ?_)
  · refine wp_iconst (v := 0) dX2_isDigitHere_22 (by decide) ?_
    exact wp_iret dX2_isDigitHere_23 rfl rfl rfl (by first | (rw [b01_t (chC_dg.mp ⟨Int32.not_lt.mp h6, Int32.not_lt.mp h15⟩)] at hK; exact hK) | (rw [b01_f (fun e => h6 (chC_dg.mpr e).1)] at hK; exact hK) | (rw [b01_f (fun e => absurd (chC_dg.mpr e).1 (Int32.not_le.mpr h6))] at hK; exact hK) | (rw [b01_f (fun e => absurd (chC_dg.mpr e).2 (Int32.not_le.mpr h15))] at hK; exact hK))
  · refine wp_aload_n dX2_isDigitHere_9 rfl ?_
    refine wp_cV0 (z := mX2_signHere) (n' := 243) kX2_36 dX2_isDigitHere_10 (Nat.le_of_ble_eq_true rfl) (Nat.le_of_ble_eq_true rfl) tA_29 (Nat.le_of_ble_eq_true rfl) (Nat.le_of_ble_eq_true rfl) (Nat.le_refl _) (Nat.le_refl _) (s_X2_signHere hC hX hp ha (wp_af ?_))
    refine wp_bipush (v := 57) dX2_isDigitHere_13 (by decide) ?_
    refine wp_icmp_gt (tgt := 22) dX2_isDigitHere_15 (by decide) (fun h15 => ?_) (fun h15 => ?_)
    · refine wp_iconst (v := 0) dX2_isDigitHere_22 (by decide) ?_
      exact wp_iret dX2_isDigitHere_23 rfl rfl rfl (by first | (rw [b01_t (chC_dg.mp ⟨Int32.not_lt.mp h6, Int32.not_lt.mp h15⟩)] at hK; exact hK) | (rw [b01_f (fun e => h6 (chC_dg.mpr e).1)] at hK; exact hK) | (rw [b01_f (fun e => absurd (chC_dg.mpr e).1 (Int32.not_le.mpr h6))] at hK; exact hK) | (rw [b01_f (fun e => absurd (chC_dg.mpr e).2 (Int32.not_le.mpr h15))] at hK; exact hK))
    · refine wp_iconst (v := 1) dX2_isDigitHere_18 (by decide) ?_
      refine wp_goto (tgt := 23) dX2_isDigitHere_19 (by decide) ?_
      exact wp_iret dX2_isDigitHere_23 rfl rfl rfl (by first | (rw [b01_t (chC_dg.mp ⟨Int32.not_lt.mp h6, Int32.not_lt.mp h15⟩)] at hK; exact hK) | (rw [b01_f (fun e => h6 (chC_dg.mpr e).1)] at hK; exact hK) | (rw [b01_f (fun e => absurd (chC_dg.mpr e).1 (Int32.not_le.mpr h6))] at hK; exact hK) | (rw [b01_f (fun e => absurd (chC_dg.mpr e).2 (Int32.not_le.mpr h15))] at hK; exact hK))

set_option maxRecDepth 100000 in
set_option maxHeartbeats 4000000 in
theorem s_X2_accept {γ : Gm} {l : Launch} {M : Mm} {R : Rm} {K : KT} {M0 : Mm} {tx : Nat → Int32} {pl a : Nat} {k t s v p f : Int32} {c : Int32}  (hC : RC R) (hX : PD M0 M tx pl a k t s v p f) (hp : pl ≤ 80) (ha : a ≤ 201) (hc : ¬ c = 0) (hK : ∀ M1, PD M0 M1 tx pl (if nx tx pl a c then a + 1 else a) k t s v p f → K (some (.int (b01 (nx tx pl a c)))) 243 M1 R) : CL γ l mX2_accept 1 243 243 [.ref 29, .int c] M R K := by
  show WP γ l mX2_accept 1 243 243 0 [some (.ref 29), some (.int c)] [] 243 M R K
  refine wp_aload_n dX2_accept_0 rfl ?_
  refine wp_cV0 (z := mX2_signHere) (n' := 243) kX2_36 dX2_accept_1 (Nat.le_of_ble_eq_true rfl) (Nat.le_of_ble_eq_true rfl) tA_29 (Nat.le_of_ble_eq_true rfl) (Nat.le_of_ble_eq_true rfl) (Nat.le_refl _) (Nat.le_refl _) (s_X2_signHere hC hX hp ha (wp_af ?_))
  refine wp_iload_n dX2_accept_4 rfl ?_
  refine wp_icmp_eq (tgt := 10) dX2_accept_5 (by decide) (fun h5 => ?_) (fun h5 => ?_)
  · have g5 := (chC_nx hc).mp h5
    refine wp_aload_n dX2_accept_10 rfl ?_
    refine wp_dup dX2_accept_11 rfl ?_
    refine wp_getJ (v := nI a) fX2_25 tA_29 rfl (Nat.le_of_ble_eq_true rfl) dX2_accept_12 (hX.pa) ?_
    refine wp_iconst (v := 1) dX2_accept_15 (by decide) ?_
    refine wp_iadd dX2_accept_16 ?_
    refine wp_top (z := nI (a + 1)) (nI_1 a) ?_
    refine wp_putI pX2_25 tA_29 rfl ⟨rfl, rfl⟩ (Nat.le_of_ble_eq_true rfl) dX2_accept_17 ?_
    refine wp_iconst (v := 1) dX2_accept_20 (by decide) ?_
    exact wp_iret dX2_accept_21 rfl rfl rfl (by have := hK _ (by rw [if_pos g5]; exact hX.w2 (a + 1)); rwa [b01_t g5] at this)
  · have g5 := fun e => h5 ((chC_nx hc).mpr e)
    refine wp_iconst (v := 0) dX2_accept_8 (by decide) ?_
    exact wp_iret dX2_accept_9 rfl rfl rfl (by have := hK M (by rw [if_neg g5]; exact hX); rwa [b01_f g5] at this)

set_option maxRecDepth 100000 in
set_option maxHeartbeats 4000000 in
theorem s_X2_readNumber {γ : Gm} {l : Launch} {M : Mm} {R : Rm} {K : KT} {M0 : Mm} {tx : Nat → Int32} {pl a : Nat} {k t s v p f : Int32}  (hC : RC R) (hX : PD M0 M tx pl a k t s v p f) (hp : pl ≤ 80) (ha : a ≤ 201) (hK : ∀ M1, PD M0 M1 tx pl (rnE tx pl a) k t s v p f → K (some (.int (rnV tx pl a))) 243 M1 R) : CL γ l mX2_readNumber 2 243 243 [.ref 29] M R K := by
  show WP γ l mX2_readNumber 2 243 243 0 [some (.ref 29), none, none] [] 243 M R K
  have out : ∀ (M1 : Mm) (w e : Nat) (z : Value), rdN tx pl a = some (w, e) → PD M0 M1 tx pl e k t s v p f → WP γ l mX2_readNumber 2 243 243 75 [some (.ref 29), some (.int (nI w)), some z] [] 243 M1 R K := by
    intro M1 w e z hr h1
    refine wp_iload_n dX2_readNumber_75 rfl ?_
    exact wp_iret dX2_readNumber_76 rfl rfl rfl (by have := hK M1 (by rw [(rn_some hr).2]; exact h1); rwa [(rn_some hr).1] at this)
  have third : ∀ (M1 : Mm) (w e : Nat), 100 ≤ w → w ≤ 999 → rdN tx pl a = some (w, e) → PD M0 M1 tx pl e k t s v p f → WP γ l mX2_readNumber 2 243 243 30 [some (.ref 29), some (.int (nI w)), some (.int (nI 3))] [] 243 M1 R K := by
    intro M1 w e hv hv2 hr h1
    refine wp_iload_n dX2_readNumber_30 rfl ?_
    refine wp_iconst (v := 3) dX2_readNumber_31 (by decide) ?_
    refine wp_icN_ge (a := 3) (b := 3) (tgt := 75) dX2_readNumber_32 (by decide) rfl rfl (by omega) (by omega) (fun _ => ?_) (fun h => absurd h (by decide))
    exact out M1 w e _ hr h1
  have second : ∀ (M1 : Mm), 0 < dn tx a → dg tx pl a → dg tx pl (a + 1) → PD M0 M1 tx pl (a + 2) k t s v p f → WP γ l mX2_readNumber 2 243 243 30 [some (.ref 29), some (.int (nI (10 * dn tx a + dn tx (a + 1)))), some (.int (nI 2))] [] 243 M1 R K := by
    intro M1 hd1 g1 g2 h1
    have d1 := (dg_dn g1).2
    have d2 := (dg_dn g2).2
    obtain ⟨w, hv⟩ : ∃ w, w = 10 * dn tx a + dn tx (a + 1) := ⟨_, rfl⟩
    obtain ⟨e, he⟩ : ∃ e, e = a + 2 := ⟨_, rfl⟩
    rw [← hv]
    rw [← he] at h1
    have hr : rdN tx pl a = if dg tx pl e then some (10 * w + dn tx e, e + 1) else some (w, e) := by rw [rdN, if_pos g1, if_pos ⟨hd1, g2⟩, he, hv]
    refine wp_iload_n dX2_readNumber_30 rfl ?_
    refine wp_iconst (v := 3) dX2_readNumber_31 (by decide) ?_
    refine wp_icN_ge (a := 2) (b := 3) (tgt := 75) dX2_readNumber_32 (by decide) rfl rfl (by omega) (by omega) (fun h => absurd h (by decide)) (fun _ => ?_)
    refine wp_iload_n dX2_readNumber_35 rfl ?_
    refine wp_ifN_le (a := w) (tgt := 75) dX2_readNumber_36 (by decide) rfl (by omega) (fun h36 => absurd h36 (by omega)) (fun h36 => ?_)
    refine wp_aload_n dX2_readNumber_39 rfl ?_
    refine wp_cV0 (z := mX2_isDigitHere) (n' := 243) kX2_73 dX2_readNumber_40 (Nat.le_of_ble_eq_true rfl) (Nat.le_of_ble_eq_true rfl) tA_29 (Nat.le_of_ble_eq_true rfl) (Nat.le_of_ble_eq_true rfl) (Nat.le_refl _) (Nat.le_refl _) (s_X2_isDigitHere hC h1 hp (by omega) (wp_af ?_))
    refine wp_bq_eq (tgt := 75) dX2_readNumber_43 (by decide) (fun g43 => ?_) (fun g43 => ?_)
    · exact out M1 w e _ (by rw [hr, if_neg g43]) h1
    · refine wp_bipush (v := 10) dX2_readNumber_46 (by decide) ?_
      refine wp_iload_n dX2_readNumber_48 rfl ?_
      refine wp_imul dX2_readNumber_49 ?_
      refine wp_aload_n dX2_readNumber_50 rfl ?_
      refine wp_cV0 (z := mX2_signHere) (n' := 243) kX2_36 dX2_readNumber_51 (Nat.le_of_ble_eq_true rfl) (Nat.le_of_ble_eq_true rfl) tA_29 (Nat.le_of_ble_eq_true rfl) (Nat.le_of_ble_eq_true rfl) (Nat.le_refl _) (Nat.le_refl _) (s_X2_signHere hC h1 hp (by omega) (wp_af ?_))
      refine wp_iadd dX2_readNumber_54 ?_
      refine wp_bipush (v := 48) dX2_readNumber_55 (by decide) ?_
      refine wp_isub dX2_readNumber_57 ?_
      have d3 := (dg_dn g43).2
      refine wp_top (z := nI (10 * w + dn tx e)) (dgc_more g43) ?_
      refine wp_istore_n (L' := [some (.ref 29), some (.int (nI (10 * w + dn tx e))), some (.int _)]) dX2_readNumber_58 (by decide) rfl ?_
      refine wp_aload_n dX2_readNumber_59 rfl ?_
      refine wp_dup dX2_readNumber_60 rfl ?_
      refine wp_getJ (v := nI e) fX2_25 tA_29 rfl (Nat.le_of_ble_eq_true rfl) dX2_readNumber_61 (h1.pa) ?_
      refine wp_iconst (v := 1) dX2_readNumber_64 (by decide) ?_
      refine wp_iadd dX2_readNumber_65 ?_
      refine wp_top (z := nI (e + 1)) (nI_1 e) ?_
      refine wp_putI pX2_25 tA_29 rfl ⟨rfl, rfl⟩ (Nat.le_of_ble_eq_true rfl) dX2_readNumber_66 ?_
      refine wp_iinc (v := nI (2 + 1)) (L' := [some (.ref 29), some (.int (nI (10 * w + dn tx e))), some (.int (nI (2 + 1)))]) dX2_readNumber_69 (by decide) rfl (inc_1 _) rfl ?_
      refine wp_goto (tgt := 30) dX2_readNumber_72 (by decide) ?_
      exact third _ (10 * w + dn tx e) (e + 1) (by omega) (by omega) (by rw [hr, if_pos g43]) (h1.w2 _)
  have first1 : ∀ (M1 : Mm), dg tx pl a → PD M0 M1 tx pl (a + 1) k t s v p f → WP γ l mX2_readNumber 2 243 243 30 [some (.ref 29), some (.int (nI (dn tx a))), some (.int (nI 1))] [] 243 M1 R K := by
    intro M1 g1 h1
    have d1 := (dg_dn g1).2
    obtain ⟨w, hv⟩ : ∃ w, w = dn tx a := ⟨_, rfl⟩
    obtain ⟨e, he⟩ : ∃ e, e = a + 1 := ⟨_, rfl⟩
    rw [← hv]
    rw [← he] at h1
    refine wp_iload_n dX2_readNumber_30 rfl ?_
    refine wp_iconst (v := 3) dX2_readNumber_31 (by decide) ?_
    refine wp_icN_ge (a := 1) (b := 3) (tgt := 75) dX2_readNumber_32 (by decide) rfl rfl (by omega) (by omega) (fun h => absurd h (by decide)) (fun _ => ?_)
    refine wp_iload_n dX2_readNumber_35 rfl ?_
    refine wp_ifN_le (a := w) (tgt := 75) dX2_readNumber_36 (by decide) rfl (by omega) (fun h36 => ?_) (fun h36 => ?_)
    · first
        | exact out M1 w e _ (by rw [rdN, if_pos g1, if_neg (fun h => g43 (he ▸ h.2)), hv, he]) h1
        | exact out M1 w e _ (by rw [rdN, if_pos g1, if_neg (fun h => absurd h.1 (by omega)), hv, he]) h1
    · refine wp_aload_n dX2_readNumber_39 rfl ?_
      refine wp_cV0 (z := mX2_isDigitHere) (n' := 243) kX2_73 dX2_readNumber_40 (Nat.le_of_ble_eq_true rfl) (Nat.le_of_ble_eq_true rfl) tA_29 (Nat.le_of_ble_eq_true rfl) (Nat.le_of_ble_eq_true rfl) (Nat.le_refl _) (Nat.le_refl _) (s_X2_isDigitHere hC h1 hp (by omega) (wp_af ?_))
      refine wp_bq_eq (tgt := 75) dX2_readNumber_43 (by decide) (fun g43 => ?_) (fun g43 => ?_)
      · first
          | exact out M1 w e _ (by rw [rdN, if_pos g1, if_neg (fun h => g43 (he ▸ h.2)), hv, he]) h1
          | exact out M1 w e _ (by rw [rdN, if_pos g1, if_neg (fun h => absurd h.1 (by omega)), hv, he]) h1
      · refine wp_bipush (v := 10) dX2_readNumber_46 (by decide) ?_
        refine wp_iload_n dX2_readNumber_48 rfl ?_
        refine wp_imul dX2_readNumber_49 ?_
        refine wp_aload_n dX2_readNumber_50 rfl ?_
        refine wp_cV0 (z := mX2_signHere) (n' := 243) kX2_36 dX2_readNumber_51 (Nat.le_of_ble_eq_true rfl) (Nat.le_of_ble_eq_true rfl) tA_29 (Nat.le_of_ble_eq_true rfl) (Nat.le_of_ble_eq_true rfl) (Nat.le_refl _) (Nat.le_refl _) (s_X2_signHere hC h1 hp (by omega) (wp_af ?_))
        refine wp_iadd dX2_readNumber_54 ?_
        refine wp_bipush (v := 48) dX2_readNumber_55 (by decide) ?_
        refine wp_isub dX2_readNumber_57 ?_
        have d3 := (dg_dn g43).2
        refine wp_top (z := nI (10 * w + dn tx e)) (dgc_more g43) ?_
        refine wp_istore_n (L' := [some (.ref 29), some (.int (nI (10 * w + dn tx e))), some (.int _)]) dX2_readNumber_58 (by decide) rfl ?_
        refine wp_aload_n dX2_readNumber_59 rfl ?_
        refine wp_dup dX2_readNumber_60 rfl ?_
        refine wp_getJ (v := nI e) fX2_25 tA_29 rfl (Nat.le_of_ble_eq_true rfl) dX2_readNumber_61 (h1.pa) ?_
        refine wp_iconst (v := 1) dX2_readNumber_64 (by decide) ?_
        refine wp_iadd dX2_readNumber_65 ?_
        refine wp_top (z := nI (e + 1)) (nI_1 e) ?_
        refine wp_putI pX2_25 tA_29 rfl ⟨rfl, rfl⟩ (Nat.le_of_ble_eq_true rfl) dX2_readNumber_66 ?_
        refine wp_iinc (v := nI (1 + 1)) (L' := [some (.ref 29), some (.int (nI (10 * w + dn tx e))), some (.int (nI (1 + 1)))]) dX2_readNumber_69 (by decide) rfl (inc_1 _) rfl ?_
        refine wp_goto (tgt := 30) dX2_readNumber_72 (by decide) ?_
        rw [hv, he]
        exact second _ (by omega) g1 (he ▸ g43) (by rw [show a + 2 = e + 1 by omega]; exact h1.w2 (e + 1))
  refine wp_aload_n dX2_readNumber_0 rfl ?_
  refine wp_cV0 (z := mX2_isDigitHere) (n' := 243) kX2_73 dX2_readNumber_1 (Nat.le_of_ble_eq_true rfl) (Nat.le_of_ble_eq_true rfl) tA_29 (Nat.le_of_ble_eq_true rfl) (Nat.le_of_ble_eq_true rfl) (Nat.le_refl _) (Nat.le_refl _) (s_X2_isDigitHere hC hX hp (by omega) (wp_af ?_))
  refine wp_bq_ne (tgt := 10) dX2_readNumber_4 (by decide) (fun g4 => ?_) (fun g4 => ?_)
  · refine wp_aload_n dX2_readNumber_10 rfl ?_
    refine wp_cV0 (z := mX2_signHere) (n' := 243) kX2_36 dX2_readNumber_11 (Nat.le_of_ble_eq_true rfl) (Nat.le_of_ble_eq_true rfl) tA_29 (Nat.le_of_ble_eq_true rfl) (Nat.le_of_ble_eq_true rfl) (Nat.le_refl _) (Nat.le_refl _) (s_X2_signHere hC hX hp (by omega) (wp_af ?_))
    refine wp_bipush (v := 48) dX2_readNumber_14 (by decide) ?_
    refine wp_isub dX2_readNumber_16 ?_
    refine wp_top (dgc_dn g4) ?_
    refine wp_istore_n (L' := [some (.ref 29), some (.int (nI (dn tx a))), none]) dX2_readNumber_17 (by decide) rfl ?_
    refine wp_aload_n dX2_readNumber_18 rfl ?_
    refine wp_dup dX2_readNumber_19 rfl ?_
    refine wp_getJ (v := nI a) fX2_25 tA_29 rfl (Nat.le_of_ble_eq_true rfl) dX2_readNumber_20 (hX.pa) ?_
    refine wp_iconst (v := 1) dX2_readNumber_23 (by decide) ?_
    refine wp_iadd dX2_readNumber_24 ?_
    refine wp_top (z := nI (a + 1)) (nI_1 a) ?_
    refine wp_putI pX2_25 tA_29 rfl ⟨rfl, rfl⟩ (Nat.le_of_ble_eq_true rfl) dX2_readNumber_25 ?_
    refine wp_iconst (v := 1) dX2_readNumber_28 (by decide) ?_
    refine wp_istore_n (L' := [some (.ref 29), some (.int (nI (dn tx a))), some (.int _)]) dX2_readNumber_29 (by decide) rfl ?_
    exact first1 _ g4 (hX.w2 (a + 1))
  · refine wp_bipush (v := (-3)) dX2_readNumber_7 (by decide) ?_
    exact wp_iret dX2_readNumber_9 rfl rfl rfl (by have e := rn_none (show rdN tx pl a = none by rw [rdN, if_neg g4]); have := hK M (by rw [e.2]; exact hX); rwa [e.1] at this)

set_option maxRecDepth 100000 in
set_option maxHeartbeats 4000000 in
theorem s_X2_readTarget {γ : Gm} {l : Launch} {M : Mm} {R : Rm} {K : KT} {M0 : Mm} {tx : Nat → Int32} {pl a : Nat} {k t s v p f : Int32}  (hC : RC R) (hX : PD M0 M tx pl a k t s v p f) (hp : pl ≤ 80) (ha : a ≤ 201) (hK : ∀ M1, PD M0 M1 tx pl (rnE tx pl a) k (rnV tx pl a) s v p f → K (some (.int (b01 ((rdN tx pl a).isSome = true)))) 243 M1 R) : CL γ l mX2_readTarget 3 243 243 [.ref 29] M R K := by
  show WP γ l mX2_readTarget 3 243 243 0 [some (.ref 29)] [] 243 M R K
  refine wp_aload_n dX2_readTarget_0 rfl ?_
  refine wp_aload_n dX2_readTarget_1 rfl ?_
  refine wp_cV0 (z := mX2_readNumber) (n' := 243) kX2_55 dX2_readTarget_2 (Nat.le_of_ble_eq_true rfl) (Nat.le_of_ble_eq_true rfl) tA_29 (Nat.le_of_ble_eq_true rfl) (Nat.le_of_ble_eq_true rfl) (Nat.le_refl _) (Nat.le_refl _) (s_X2_readNumber hC hX hp ha (fun M1 g1 => (wp_af ?_)))
  refine wp_putI pX2_64 tA_29 rfl ⟨rfl, rfl⟩ (Nat.le_of_ble_eq_true rfl) dX2_readTarget_5 ?_
  refine wp_aload_n dX2_readTarget_8 rfl ?_
  refine wp_getJ fX2_64 tA_29 rfl (Nat.le_of_ble_eq_true rfl) dX2_readTarget_9 ((g1.w4 _).pt) ?_
  refine wp_if_lt (tgt := 19) dX2_readTarget_12 (by decide) (fun h12 => ?_) (fun h12 => ?_)
  · refine wp_iconst (v := 0) dX2_readTarget_19 (by decide) ?_
    exact wp_iret dX2_readTarget_20 rfl rfl rfl (by
    have e := hK _ (g1.w4 _)
    first
      | (rw [b01_f (by rw [rn_lt h12]; simp)] at e; exact e)
      | (obtain ⟨w, c, hw⟩ := rn_ge h12; rw [b01_t (by rw [hw]; rfl)] at e; exact e))
  · refine wp_iconst (v := 1) dX2_readTarget_15 (by decide) ?_
    refine wp_goto (tgt := 20) dX2_readTarget_16 (by decide) ?_
    exact wp_iret dX2_readTarget_20 rfl rfl rfl (by
    have e := hK _ (g1.w4 _)
    first
      | (rw [b01_f (by rw [rn_lt h12]; simp)] at e; exact e)
      | (obtain ⟨w, c, hw⟩ := rn_ge h12; rw [b01_t (by rw [hw]; rfl)] at e; exact e))

