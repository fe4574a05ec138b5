/-! THE CLASS: gauges -/
set_option maxRecDepth 100000 in
set_option maxHeartbeats 4000000 in
theorem s_X0_startIn {γ : Gm} {l : Launch} {M : Mm} {R : Rm} {K : KT} {b g : Nat} {v : Int32}  (hT : Tb b) (hR : RT R b) (hg : g < 4) (hK : K none 247 (u2 (u2 (u2 M (b + 12 + 2 * g) 1 v) (b + 12 + 2 * g) 2 0) (b + 12 + 2 * g) 3 0) R) : CL γ l mX0_startIn 0 247 247 [.ref (b + 12 + 2 * g), .int v] M R K := by
  show WP γ l mX0_startIn 0 247 247 0 [some (.ref (b + 12 + 2 * g)), some (.int v)] [] 247 M R K
  refine wp_aload_n dX0_startIn_0 rfl ?_
  refine wp_iload_n dX0_startIn_1 rfl ?_
  refine wp_putI pX0_21 (hT.tg0 hg).1 rfl ⟨rfl, rfl⟩ (by have := hT.lt; omega) dX0_startIn_2 ?_
  refine wp_aload_n dX0_startIn_5 rfl ?_
  refine wp_iconst (v := 0) dX0_startIn_6 (by decide) ?_
  refine wp_putI pX0_25 (hT.tg0 hg).1 rfl ⟨rfl, rfl⟩ (by have := hT.lt; omega) dX0_startIn_7 ?_
  refine wp_aload_n dX0_startIn_10 rfl ?_
  refine wp_iconst (v := 0) dX0_startIn_11 (by decide) ?_
  refine wp_putI pX0_28 (hT.tg0 hg).1 rfl ⟨rfl, rfl⟩ (by have := hT.lt; omega) dX0_startIn_12 ?_
  exact wp_vret dX0_startIn_15 rfl rfl (hK)

theorem gk_note {M M1 : Mm} {b g m x : Nat} {sg : Nat → Int32} (h : GkO M b g sg) (hm : m ≤ 60) (hm2 : sg (122 + 62 * g + 1) = nI m) (hx : x < 60) (hx2 : M (b + 12 + 2 * g) 3 = nI x) (e1 : M1 (b + 13 + 2 * g) = up (M (b + 13 + 2 * g)) x (ntV sg g)) (e2 : M1 (b + 12 + 2 * g) 1 = M (b + 12 + 2 * g) 1) (e3 : M1 (b + 12 + 2 * g) 2 = nI (if m = 60 then 60 else m + 1)) (e4 : M1 (b + 12 + 2 * g) 3 = nI ((x + 1) % 60)) : GkO M1 b g (nt1 sg g) := by
  obtain ⟨h1, h2, x0, h3, h4, h5⟩ := h
  have ex : x0 = x := (nI_eq (by omega) (by omega)).mp (h4.symm.trans hx2)
  subst ex
  have old := h5 m hm hm2
  by_cases h60 : m = 60
  · subst h60
    have en : nt1 sg g = up (up (up (ntS sg g 60) (122 + 62 * g + 1) 59) (122 + 62 * g + 2 + 59) (ntV sg g)) (122 + 62 * g + 1) 60 := by rw [nt1, if_pos (by rw [hm2]; rfl)]
    have ec : nt1 sg g (122 + 62 * g) = sg (122 + 62 * g) := by rw [en, up_n _ _ (by omega), up_n _ _ (by omega), up_n _ _ (by omega), ntS, if_neg (by omega)]
    have ek : nt1 sg g (122 + 62 * g + 1) = nI 60 := by rw [en, up_s]; rfl
    refine ⟨by rw [e2, ec]; exact h1, by rw [e3, if_pos rfl, ek], (x0 + 1) % 60, by omega, e4, fun q hq hq2 ago ha => ?_⟩
    have eq : q = 60 := (nI_eq (by omega) (by decide)).mp (hq2.symm.trans ek)
    subst eq
    rw [e1]
    by_cases h0 : ago = 0
    · subst h0
      rw [show ((x0 + 1) % 60 + 59 - 0) % 60 = x0 by omega, up_s, en, up_n _ _ (by omega), show 122 + 62 * g + 2 + (60 - 1 - 0) = 122 + 62 * g + 2 + 59 by omega, up_s]
    · rw [show ((x0 + 1) % 60 + 59 - ago) % 60 = (x0 + 59 - (ago - 1)) % 60 by omega, up_n _ _ (by omega), old (ago - 1) (by omega), en, up_n _ _ (by omega), up_n _ _ (by omega), up_n _ _ (by omega), ntS, if_pos (by omega)]
      congr 1
      omega
  · have en : nt1 sg g = up (up sg (122 + 62 * g + 2 + m) (ntV sg g)) (122 + 62 * g + 1) (nI (m + 1)) := by rw [nt1, if_neg (by rw [hm2]; intro q; exact h60 ((nI_eq (by omega) (by decide)).mp (show nI m = nI 60 from q))), hm2, nI_clamp (by omega), nI_1]
    have ec : nt1 sg g (122 + 62 * g) = sg (122 + 62 * g) := by rw [en, up_n _ _ (by omega), up_n _ _ (by omega)]
    have ek : nt1 sg g (122 + 62 * g + 1) = nI (m + 1) := by rw [en, up_s]
    refine ⟨by rw [e2, ec]; exact h1, by rw [e3, if_neg h60, ek], (x0 + 1) % 60, by omega, e4, fun q hq hq2 ago ha => ?_⟩
    have eq : q = m + 1 := (nI_eq (by omega) (by omega)).mp (hq2.symm.trans ek)
    subst eq
    rw [e1]
    by_cases h0 : ago = 0
    · subst h0
      rw [show ((x0 + 1) % 60 + 59 - 0) % 60 = x0 by omega, up_s, en, up_n _ _ (by omega), show 122 + 62 * g + 2 + (m + 1 - 1 - 0) = 122 + 62 * g + 2 + m by omega, up_s]
    · rw [show ((x0 + 1) % 60 + 59 - ago) % 60 = (x0 + 59 - (ago - 1)) % 60 by omega, up_n _ _ (by omega), old (ago - 1) (by omega), en, up_n _ _ (by omega), up_n _ _ (by omega)]
      congr 1
      omega
theorem rem60 {x : Nat} (h : x < 60) : nI (x + 1) - nI (x + 1) / 60 * 60 = nI ((x + 1) % 60) := rem_60 ⟨x, h⟩
theorem mn60 {x : Nat} (h : x ≤ 60) : mnI (nI (x + 1)) 60 = nI (if x = 60 then 60 else x + 1) := mn_60 ⟨x, by omega⟩
set_option maxRecDepth 100000 in
set_option maxHeartbeats 4000000 in
theorem s_X0_note {γ : Gm} {l : Launch} {M : Mm} {R : Rm} {K : KT} {b g : Nat} {v : Int32} {sg : Nat → Int32}  (hT : Tb b) (hR : RT R b) (hg : g < 4) (hG : GkO M b g sg) (hO : ∃ m, m ≤ 60 ∧ sg (122 + 62 * g + 1) = nI m) (hv : v = ntV sg g) (hK : ∀ M1, (∀ a, a ≠ b + 12 + 2 * g → a ≠ b + 13 + 2 * g → M1 a = M a) → GkO M1 b g (nt1 sg g) → K none 247 M1 R) : CL γ l mX0_note 1 247 247 [.ref (b + 12 + 2 * g), .int v] M R K := by
  show WP γ l mX0_note 1 247 247 0 [some (.ref (b + 12 + 2 * g)), some (.int v)] [] 247 M R K
  obtain ⟨m, hm, hm2⟩ := hO
  have hG2 := hG
  obtain ⟨h1, h2, x, hx, hx2, h5⟩ := hG
  have h2m : M (b + 12 + 2 * g) 2 = nI m := h2.trans hm2
  refine wp_aload_n dX0_note_0 rfl ?_
  refine wp_getQ fX0_9 (hT.tg0 hg).1 rfl (hR.2.1 g hg).2 (by omega) (by have := hT.lt; omega) dX0_note_1 ?_
  refine wp_aload_n dX0_note_4 rfl ?_
  refine wp_getJ (v := nI x) fX0_28 (hT.tg0 hg).1 rfl (by have := hT.lt; omega) dX0_note_5 (hx2) ?_
  refine wp_iload_n dX0_note_8 rfl ?_
  refine wp_iast (i := x) rfl (hT.tg1 hg).1 (by have := hT.lt; omega) (by rw [(hT.tg1 hg).2]; omega) (by have := hT.lt; omega) dX0_note_9 ?_
  refine wp_aload_n dX0_note_10 rfl ?_
  refine wp_aload_n dX0_note_11 rfl ?_
  refine wp_getJ (v := nI x) fX0_28 (hT.tg0 hg).1 rfl (by have := hT.lt; omega) dX0_note_12 ((show (u2 M (b + 13 + 2 * g) x v) (b + 12 + 2 * g) 3 = nI x by rw [u2_n _ _ _ (by omega)]; exact hx2)) ?_
  refine wp_iconst (v := 1) dX0_note_15 (by decide) ?_
  refine wp_iadd dX0_note_16 ?_
  refine wp_top (z := nI (x + 1)) (nI_1 x) ?_
  refine wp_bipush (v := 60) dX0_note_17 (by decide) ?_
  refine wp_irem dX0_note_19 (by decide) ?_
  refine wp_top (rem60 hx) ?_
  refine wp_putI pX0_28 (hT.tg0 hg).1 rfl ⟨rfl, rfl⟩ (by have := hT.lt; omega) dX0_note_20 ?_
  refine wp_aload_n dX0_note_23 rfl ?_
  refine wp_aload_n dX0_note_24 rfl ?_
  refine wp_getJ (v := nI m) fX0_25 (hT.tg0 hg).1 rfl (by have := hT.lt; omega) dX0_note_25 ((show (u2 (u2 M (b + 13 + 2 * g) x v) (b + 12 + 2 * g) 3 (nI ((x + 1) % 60))) (b + 12 + 2 * g) 2 = nI m by rw [u2_s, up_n _ _ (by decide), u2_n _ _ _ (by omega)]; exact h2m)) ?_
  refine wp_iconst (v := 1) dX0_note_28 (by decide) ?_
  refine wp_iadd dX0_note_29 ?_
  refine wp_top (z := nI (m + 1)) (nI_1 m) ?_
  refine wp_bipush (v := 60) dX0_note_30 (by decide) ?_
  refine wp_cS2 (z := mJ9_min_7cf53) (n' := 247) kX0_31 dX0_note_32 (Nat.le_of_ble_eq_true rfl) (Nat.le_of_ble_eq_true rfl) (Nat.le_of_ble_eq_true rfl) (Nat.le_refl _) (Nat.le_refl _) (s_J9_min_7cf53 (wp_af ?_))
  refine wp_top (mn60 hm) ?_
  refine wp_putI pX0_25 (hT.tg0 hg).1 rfl ⟨rfl, rfl⟩ (by have := hT.lt; omega) dX0_note_35 ?_
  exact wp_vret dX0_note_38 rfl rfl (hK _ (fun a a1 a2 => by rw [u2_n _ _ _ a1, u2_n _ _ _ a1, u2_n _ _ _ a2]) (gk_note hG2 hm hm2 hx hx2 (by rw [u2_n _ _ _ (by omega), u2_n _ _ _ (by omega), u2_s, hv]) (by rw [u2_s, up_n _ _ (by decide), u2_s, up_n _ _ (by decide), u2_n _ _ _ (by omega)]) (by rw [u2_s, up_s]) (by rw [u2_s, up_n _ _ (by decide), u2_s, up_s])))

set_option maxRecDepth 100000 in
set_option maxHeartbeats 4000000 in
theorem s_X0_levelAgo {γ : Gm} {l : Launch} {M : Mm} {R : Rm} {K : KT} {b g : Nat} {a m : Nat} {sg : Nat → Int32}  (hT : Tb b) (hR : RT R b) (hg : g < 4) (hG : GkO M b g sg) (hm : m ≤ 60) (hm2 : sg (122 + 62 * g + 1) = nI m) (ha : a < m) (hK : K (some (.int (sg (122 + 62 * g + 2 + (m - 1 - a))))) 247 M R) : CL γ l mX0_levelAgo 1 247 247 [.ref (b + 12 + 2 * g), .int (nI a)] M R K := by
  show WP γ l mX0_levelAgo 1 247 247 0 [some (.ref (b + 12 + 2 * g)), some (.int (nI a))] [] 247 M R K
  obtain ⟨h1, h2, x, hx, hx2, h5⟩ := hG
  refine wp_aload_n dX0_levelAgo_0 rfl ?_
  refine wp_getQ fX0_9 (hT.tg0 hg).1 rfl (hR.2.1 g hg).2 (by omega) (by have := hT.lt; omega) dX0_levelAgo_1 ?_
  refine wp_aload_n dX0_levelAgo_4 rfl ?_
  refine wp_getJ (v := nI x) fX0_28 (hT.tg0 hg).1 rfl (by have := hT.lt; omega) dX0_levelAgo_5 (hx2) ?_
  refine wp_iconst (v := 1) dX0_levelAgo_8 (by decide) ?_
  refine wp_isub dX0_levelAgo_9 ?_
  refine wp_iload_n dX0_levelAgo_10 rfl ?_
  refine wp_isub dX0_levelAgo_11 ?_
  refine wp_bipush (v := 60) dX0_levelAgo_12 (by decide) ?_
  refine wp_cS2 (z := mJ9_floorMod_7cf53) (n' := 247) kX0_37 dX0_levelAgo_14 (Nat.le_of_ble_eq_true rfl) (Nat.le_of_ble_eq_true rfl) (Nat.le_of_ble_eq_true rfl) (Nat.le_refl _) (Nat.le_refl _) (s_J9_floorMod_7cf53 (by decide) (wp_af ?_))
  refine wp_top (fm_at hx (by omega)) ?_
  refine wp_iald (i := ((x + 59 - a) % 60)) rfl (hT.tg1 hg).1 (by have := hT.lt; omega) (by rw [(hT.tg1 hg).2]; omega) (by have := hT.lt; omega) dX0_levelAgo_17 ?_
  exact wp_iret dX0_levelAgo_18 rfl rfl rfl (by rw [← h5 m hm hm2 a ha] at hK; exact hK)
