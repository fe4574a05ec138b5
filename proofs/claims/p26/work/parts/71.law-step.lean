/-! THE LAW: its own tank, and a step of it -/
/-- how many cells below c have a paddle -/
def cnt (pa : Nat → Int32) : Nat → Nat
  | 0 => 0
  | c + 1 => if pa c = 0 then cnt pa c else cnt pa c + 1
theorem cnt_z {pa : Nat → Int32} {c : Nat} (h : pa c = 0) : cnt pa (c + 1) = cnt pa c := if_pos h
theorem cnt_n {pa : Nat → Int32} {c : Nat} (h : ¬ pa c = 0) : cnt pa (c + 1) = cnt pa c + 1 := if_neg h
theorem cnt_le (pa : Nat → Int32) (c : Nat) : cnt pa c ≤ cnt pa (c + 1) ∧ cnt pa (c + 1) ≤ cnt pa c + 1 := by
  by_cases h : pa c = 0
  · rw [cnt_z h]; omega
  · rw [cnt_n h]; omega
theorem cnt_mono (pa : Nat → Int32) {a b : Nat} (h : a ≤ b) : cnt pa a ≤ cnt pa b := by
  induction b with
  | zero => rw [Nat.le_zero.mp h]; exact Nat.le_refl _
  | succ b ih =>
    by_cases e : a = b + 1
    · rw [e]; exact Nat.le_refl _
    · exact Nat.le_trans (ih (by omega)) (cnt_le pa b).1
theorem cnt_lt {pa : Nat → Int32} {a b : Nat} (h : a < b) (ha : ¬ pa a = 0) : cnt pa a < cnt pa b := by
  have := cnt_mono pa (a := a + 1) (b := b) h
  rw [cnt_n ha] at this
  omega
theorem cnt_inj {pa : Nat → Int32} {a b : Nat} (ha : ¬ pa a = 0) (hb : ¬ pa b = 0) (h : cnt pa a = cnt pa b) : a = b := by
  rcases Nat.lt_trichotomy a b with g | g | g
  · have := cnt_lt g ha
    omega
  · exact g
  · have := cnt_lt g hb
    omega
theorem cnt_congr {pa pb : Nat → Int32} : ∀ {c : Nat}, (∀ j, j < c → (pa j = 0 ↔ pb j = 0)) → cnt pa c = cnt pb c
  | 0, _ => rfl
  | c + 1, h => by
    have ih := cnt_congr (c := c) fun j hj => h j (by omega)
    have hc := h c (by omega)
    by_cases e : pa c = 0
    · rw [cnt_z e, cnt_z (hc.mp e), ih]
    · rw [cnt_n e, cnt_n (fun q => e (hc.mpr q)), ih]
theorem nI_s0 {k : Nat} (h : k < 100) : ¬ nI (k + 1) = 0 := nI_ne0 (by omega) (by omega)
/-- the law's paddles (pa: by cells, which recipe, and 1; re: the recipes) and the state's -/
def PL (pa re : Nat → Int32) (np : Nat) (sg : Nat → Int32) : Prop := (∀ c, c < 36 → ∃ k, k ≤ 6 ∧ pa c = nI k) ∧ (∀ c e, c < 36 → e < 36 → pa c = pa e → ¬ pa c = 0 → c = e) ∧ cnt pa 36 = np ∧ ∀ c k, c < 36 → k < 6 → pa c = nI (k + 1) → sg (86 + 6 * cnt pa c) = nI c ∧ ∀ j, j < 5 → sg (86 + 6 * cnt pa c + 1 + j) = re (5 * k + j)
section
variable {pa re re2 sg ro : Nat → Int32} {np : Nat}
theorem PL.at (h : PL pa re np sg) {c : Nat} (hc : c < 36) : pa c = 0 ∨ ∃ k, k < 6 ∧ pa c = nI (k + 1) := by
  obtain ⟨k, hk, e⟩ := h.1 c hc
  cases k with
  | zero => exact Or.inl e
  | succ k => exact Or.inr ⟨k, by omega, e⟩
theorem PL.lt (h : PL pa re np sg) {c : Nat} (hc : c < 36) (h0 : ¬ pa c = 0) : cnt pa c < np := by
  have := cnt_lt (pa := pa) hc h0
  have := h.2.2.1
  omega
theorem PL.cong (h : PL pa re np sg) (e : ∀ j, 86 ≤ j → j < 86 + 6 * np → ro j = sg j) : PL pa re np ro := by
  refine ⟨h.1, h.2.1, h.2.2.1, fun c k hc hk hp => ?_⟩
  have h1 := h.lt hc (by rw [hp]; exact nI_s0 (by omega))
  obtain ⟨g1, g2⟩ := h.2.2.2 c k hc hk hp
  exact ⟨by rw [e _ (by omega) (by omega)]; exact g1, fun j hj => by rw [e _ (by omega) (by omega)]; exact g2 j hj⟩
/-- a number of the recipe of the paddle in cell c is changed -/
theorem PL.upd (h : PL pa re np sg) {c k i : Nat} (hc : c < 36) (hk : k < 6) (hp : pa c = nI (k + 1)) (hi : i < 5) (v : Int32) : PL pa (up re (5 * k + i) v) np (up sg (86 + 6 * cnt pa c + 1 + i) v) := by
  refine ⟨h.1, h.2.1, h.2.2.1, fun c2 k2 hc2 hk2 hp2 => ?_⟩
  obtain ⟨g1, g2⟩ := h.2.2.2 c2 k2 hc2 hk2 hp2
  have n1 : ¬ pa c = 0 := by rw [hp]; exact nI_s0 (by omega)
  have n2 : ¬ pa c2 = 0 := by rw [hp2]; exact nI_s0 (by omega)
  refine ⟨by rw [up_n _ _ (by omega)]; exact g1, fun j hj => ?_⟩
  by_cases e : c2 = c
  · subst e
    have ek : k2 = k := by
      have := (nI_eq (a := k2 + 1) (b := k + 1) (by omega) (by omega)).mp (hp2.symm.trans hp)
      omega
    subst ek
    by_cases ej : j = i
    · rw [ej, up_s, up_s]
    · rw [up_n _ _ (by omega), up_n _ _ (by omega)]
      exact g2 j hj
  · have ec : cnt pa c2 ≠ cnt pa c := fun q => e (cnt_inj n2 n1 q)
    have ek : k2 ≠ k := fun q => e (h.2.1 c2 c hc2 hc (by rw [hp2, hp, q]) n2)
    rw [up_n _ _ (by omega), up_n _ _ (by omega)]
    exact g2 j hj
end
/-- where the law's numbers lie: settings and steps at b + 1, levels b + 2, speeds b + 3, recipes b + 5; the cells' paddles at ap -/
def SA (b ap : Nat) : Prop := (b = 234 ∧ ap = 238) ∨ (b = 241 ∧ ap = 238) ∨ (b = 241 ∧ ap = 245)
section
variable {b ap : Nat}
theorem SA.rg (h : SA b ap) : 234 ≤ b ∧ b ≤ 241 ∧ 238 ≤ ap ∧ ap ≤ 245 ∧ ap ≠ b + 1 ∧ ap ≠ b + 2 ∧ ap ≠ b + 3 ∧ ap ≠ b + 5 := by
  unfold SA at h
  omega
theorem SA.q (h : SA b ap) : AR (b + 1) 5 := by
  rcases h with ⟨rfl, rfl⟩ | ⟨rfl, rfl⟩ | ⟨rfl, rfl⟩ <;> first | exact ar_235 | exact ar_242
theorem SA.l (h : SA b ap) : AR (b + 2) 40 := by
  rcases h with ⟨rfl, rfl⟩ | ⟨rfl, rfl⟩ | ⟨rfl, rfl⟩ <;> first | exact ar_236 | exact ar_243
theorem SA.s (h : SA b ap) : AR (b + 3) 40 := by
  rcases h with ⟨rfl, rfl⟩ | ⟨rfl, rfl⟩ | ⟨rfl, rfl⟩ <;> first | exact ar_237 | exact ar_244
theorem SA.p (h : SA b ap) : AR ap 36 := by
  rcases h with ⟨rfl, rfl⟩ | ⟨rfl, rfl⟩ | ⟨rfl, rfl⟩ <;> first | exact ar_238 | exact ar_245
theorem SA.r (h : SA b ap) : AR (b + 5) 30 := by
  rcases h with ⟨rfl, rfl⟩ | ⟨rfl, rfl⟩ | ⟨rfl, rfl⟩ <;> first | exact ar_239 | exact ar_246
end
/-- the law's tank and a state -/
def LT (M : Mm) (b ap np : Nat) (sg : Nat → Int32) : Prop := (∀ i, i < 4 → M (b + 1) i = sg i) ∧ (∀ c, c < 40 → M (b + 2) c = sg (6 + c)) ∧ (∀ c, c < 40 → M (b + 3) c = sg (46 + c)) ∧ PL (M ap) (M (b + 5)) np sg
/-- a step writes levels, speeds, recipes and the steps -/
def FrL (b : Nat) (M M1 : Mm) : Prop := (∀ a, a ≠ b + 1 → a ≠ b + 2 → a ≠ b + 3 → a ≠ b + 5 → M1 a = M a) ∧ ∀ j, j ≠ 3 → M1 (b + 1) j = M (b + 1) j
theorem FrL.rf (b : Nat) (M : Mm) : FrL b M M := ⟨fun _ _ _ _ _ => rfl, fun _ _ => rfl⟩
theorem FrL.tr {b : Nat} {M M1 M2 : Mm} (h : FrL b M M1) (h2 : FrL b M1 M2) : FrL b M M2 := ⟨fun a e1 e2 e3 e4 => (h2.1 a e1 e2 e3 e4).trans (h.1 a e1 e2 e3 e4), fun j hj => (h2.2 j hj).trans (h.2 j hj)⟩
section
variable {M M1 : Mm} {b ap np : Nat} {sg ro : Nat → Int32}
theorem LT.q (h : LT M b ap np sg) {i : Nat} (hi : i < 4) : M (b + 1) i = sg i := h.1 i hi
theorem LT.l (h : LT M b ap np sg) {c : Nat} (hc : c < 40) : M (b + 2) c = sg (6 + c) := h.2.1 c hc
theorem LT.s (h : LT M b ap np sg) {c : Nat} (hc : c < 40) : M (b + 3) c = sg (46 + c) := h.2.2.1 c hc
theorem LT.pl (h : LT M b ap np sg) : PL (M ap) (M (b + 5)) np sg := h.2.2.2
theorem LT.cong (h : LT M b ap np sg) (e : ∀ j, j < 86 + 6 * np → j ≠ 4 → j ≠ 5 → ro j = sg j) : LT M b ap np ro :=
  ⟨fun i hi => by rw [e _ (by omega) (by omega) (by omega)]; exact h.1 i hi, fun c hc => by rw [e _ (by omega) (by omega) (by omega)]; exact h.2.1 c hc, fun c hc => by rw [e _ (by omega) (by omega) (by omega)]; exact h.2.2.1 c hc, h.pl.cong fun j h1 h2 => e j h2 (by omega) (by omega)⟩
theorem LT.fr (h : LT M b ap np sg) (e1 : ∀ j, j < 4 → M1 (b + 1) j = M (b + 1) j) (e2 : M1 (b + 2) = M (b + 2)) (e3 : M1 (b + 3) = M (b + 3)) (e4 : M1 ap = M ap) (e5 : M1 (b + 5) = M (b + 5)) : LT M1 b ap np sg :=
  ⟨fun i hi => (e1 i hi).trans (h.1 i hi), by rw [e2]; exact h.2.1, by rw [e3]; exact h.2.2.1, by rw [e4, e5]; exact h.pl⟩
theorem LT.ulev (h : LT M b ap np sg) (hS : SA b ap) {c : Nat} (hc : c < 40) (v : Int32) : LT (u2 M (b + 2) c v) b ap np (up sg (6 + c) v) := by
  have := hS.rg
  refine ⟨fun i hi => by rw [u2_n _ _ _ (by omega), up_n _ _ (by omega)]; exact h.1 i hi, fun e he => ?_, fun e he => by rw [u2_n _ _ _ (by omega), up_n _ _ (by omega)]; exact h.2.2.1 e he, ?_⟩
  · rw [u2_s]
    by_cases q : e = c
    · rw [q, up_s, up_s]
    · rw [up_n _ _ q, up_n _ _ (by omega)]
      exact h.2.1 e he
  · rw [u2_n _ _ _ (by omega), u2_n _ _ _ (by omega)]
    exact h.pl.cong fun j h1 _ => up_n _ _ (by omega)
theorem LT.urec (h : LT M b ap np sg) (hS : SA b ap) {c k i : Nat} (hc : c < 36) (hk : k < 6) (hp : M ap c = nI (k + 1)) (hi : i < 5) (v : Int32) : LT (u2 M (b + 5) (5 * k + i) v) b ap np (up sg (86 + 6 * cnt (M ap) c + 1 + i) v) := by
  have := hS.rg
  refine ⟨fun j hj => by rw [u2_n _ _ _ (by omega), up_n _ _ (by omega)]; exact h.1 j hj, fun e he => by rw [u2_n _ _ _ (by omega), up_n _ _ (by omega)]; exact h.2.1 e he, fun e he => by rw [u2_n _ _ _ (by omega), up_n _ _ (by omega)]; exact h.2.2.1 e he, ?_⟩
  rw [u2_n _ _ _ (by omega), u2_s]
  exact h.pl.upd hc hk hp hi v
theorem LT.ustp (h : LT M b ap np sg) (hS : SA b ap) {v : Int32} : LT (u2 M (b + 1) 3 v) b ap np (up sg 3 v) := by
  have := hS.rg
  refine ⟨fun j hj => ?_, fun e he => by rw [u2_n _ _ _ (by omega), up_n _ _ (by omega)]; exact h.2.1 e he, fun e he => by rw [u2_n _ _ _ (by omega), up_n _ _ (by omega)]; exact h.2.2.1 e he, ?_⟩
  · rw [u2_s]
    by_cases q : j = 3
    · rw [q, up_s, up_s]
    · rw [up_n _ _ q, up_n _ _ q]
      exact h.1 j hj
  · rw [u2_n _ _ _ (by omega), u2_n _ _ _ (by omega)]
    exact h.pl.cong fun j h1 _ => up_n _ _ (by omega)
theorem LT.waters (h : LT M b ap np sg) (hS : SA b ap) (e : ∀ a, a ≠ b + 2 → a ≠ b + 3 → M1 a = M a) (e1 : ∀ j, j < 40 → M1 (b + 2) j = ro (6 + j)) (e2 : ∀ j, j < 40 → M1 (b + 3) j = ro (46 + j)) (e3 : ∀ j, j < 6 ∨ 86 ≤ j → ro j = sg j) : LT M1 b ap np ro := by
  have := hS.rg
  refine ⟨fun i hi => by rw [e _ (by omega) (by omega), e3 _ (by omega)]; exact h.1 i hi, e1, e2, ?_⟩
  rw [e _ (by omega) (by omega), e _ (by omega) (by omega)]
  exact h.pl.cong fun j h1 _ => e3 _ (by omega)
end
theorem stF_lo {sg : Nat → Int32} {np ng : Nat} (h : Ok0 sg np ng) {j : Nat} (hj : j < 122) : stF np ng sg j = up (stM np sg) 3 (stM np sg 3 + 1) j := ntN_same h.kstM.1.ggs (Nat.le_refl _) (Or.inl hj)
theorem sub_2 (x a : Int32) : x - a - a = x - 2 * a := by rw [two_t, Int32.sub_sub]
set_option maxRecDepth 100000 in
set_option maxHeartbeats 4000000 in
theorem s_L_step {γ : Gm} {l : Launch} {M : Mm} {R : Rm} {K : KT} {b ap np ng : Nat} {sg : Nat → Int32}  (hS : SA b ap) (hl : LT M b ap np sg) (ho : Ok0 sg np ng) (hK : ∀ M1, FrL b M M1 → LT M1 b ap np (stF np ng sg) → K (some (.int (pcN sg np))) 247 M1 R) : CL γ l mL_step 1 247 247 [.ref (b + 1), .ref (b + 2), .ref (b + 3), .ref ap, .ref (b + 5)] M R K := by
  show WP γ l mL_step 1 247 247 0 [some (.ref (b + 1)), some (.ref (b + 2)), some (.ref (b + 3)), some (.ref ap), some (.ref (b + 5)), none, none, none, none, none, none] [] 247 M R K
  have hrg := hS.rg
  have two : ∀ (st : Int32) (M1 : Mm), st = pcN sg np → FrL b M M1 → LT M1 b ap np (paN sg np) → WP γ l mL_step 1 247 247 88 [some (.ref (b + 1)), some (.ref (b + 2)), some (.ref (b + 3)), some (.ref ap), some (.ref (b + 5)), some (.int st), none, none, none, none, none] [] 247 M1 R K := by
    intro st M1 hst hF hl1
    have ho1 : Ok0 (paN sg np) np ng := ho.kpaN np (Nat.le_refl _)
    obtain ⟨so, hso⟩ : ∃ so, so = paN sg np := ⟨_, rfl⟩
    rw [← hso] at hl1 ho1
    have three : ∀ (M2 : Mm) (t6 t7 t8 t9 t10 : Option Value), FrL b M M2 → LT M2 b ap np (swB so 40) → WP γ l mL_step 1 247 247 192 [some (.ref (b + 1)), some (.ref (b + 2)), some (.ref (b + 3)), some (.ref ap), some (.ref (b + 5)), some (.int st), t6, t7, t8, t9, t10] [] 247 M2 R K := by
      intro M2 t6 t7 t8 t9 t10 hF2 hl2
      have four : ∀ (M3 : Mm) (t6 t7 t8 t9 t10 : Option Value), FrL b M M3 → LT M3 b ap np (bcN (swB so 40) 40) → WP γ l mL_step 1 247 247 263 [some (.ref (b + 1)), some (.ref (b + 2)), some (.ref (b + 3)), some (.ref ap), some (.ref (b + 5)), some (.int st), t6, t7, t8, t9, t10] [] 247 M3 R K := by
        intro M3 t6 t7 t8 t9 t10 hF3 hl3
        refine wp_drop [some (.ref (b + 1)), some (.ref (b + 2)), some (.ref (b + 3)), some (.ref ap), some (.ref (b + 5)), some (.int st), none, none, none, none, none] (by simp [leL]) ?_
        refine wp_aload_n dL_step_263 rfl ?_
        refine wp_iconst (v := 3) dL_step_264 (by decide) ?_
        refine wp_dup2 dL_step_265 rfl rfl ?_
        refine wp_iadn (i := 3) rfl hS.q.1 hS.q.2.2.1 (by rw [hS.q.2.1]; omega) hS.q.2.2.2 dL_step_266 (hl3.q (by decide)) ?_
        refine wp_iconst (v := 1) dL_step_267 (by decide) ?_
        refine wp_iadd dL_step_268 ?_
        refine wp_iast (i := 3) rfl hS.q.1 hS.q.2.2.1 (by rw [hS.q.2.1]; omega) hS.q.2.2.2 dL_step_269 ?_
        refine wp_iload dL_step_270 rfl ?_
        exact wp_iret dL_step_272 rfl rfl rfl (by
          rw [hst]
          refine hK _ ⟨fun a e1 e2 e3 e4 => by rw [u2_n _ _ _ e1]; exact hF3.1 a e1 e2 e3 e4, fun j hj => by rw [u2_s, up_n _ _ hj]; exact hF3.2 j hj⟩ ((hl3.ustp hS).cong fun j hj h4 h5 => ?_)
          have h6 := ho.1.2
          rw [stF_lo ho (by omega)]
          show up (stM np sg) 3 (stM np sg 3 + 1) j = _
          rw [hso]
          rfl)
      have loop : ∀ (q k : Nat) (M3 : Mm) (t6 t8 t9 t10 : Option Value), q + k = 5 → 1 ≤ k → WtI M2 M3 b (swB so 40) (bcN (swB so 40) 40) (35 + k) → WP γ l mL_step 1 247 247 195 [some (.ref (b + 1)), some (.ref (b + 2)), some (.ref (b + 3)), some (.ref ap), some (.ref (b + 5)), some (.int st), t6, some (.int (nI k)), t8, t9, t10] [] 247 M3 R K := by
        intro q
        induction q with
        | zero =>
          intro k M3 t6 t8 t9 t10 hq hk1 hI
          refine wp_drop [some (.ref (b + 1)), some (.ref (b + 2)), some (.ref (b + 3)), some (.ref ap), some (.ref (b + 5)), some (.int st), none, some (.int (nI k)), none, none, none] (by simp [leL]) ?_
          refine wp_iload dL_step_195 rfl ?_
          refine wp_iconst (v := 5) dL_step_197 (by decide) ?_
          refine wp_icN_ge (a := k) (b := 5) (tgt := 263) dL_step_198 (by decide) rfl rfl (by omega) (by omega) (fun h198 => ?_) (fun h198 => absurd h198 (by omega))
          exact four M3 _ _ _ _ _ (hF2.tr ⟨fun a e1 e2 e3 _ => hI.1 a e2 e3, fun j _ => congrFun (hI.1 (b + 1) (by omega) (by omega)) j⟩) (hl2.waters hS hI.1 (fun j hj => (hI.2.1 j hj).trans (if_pos (by omega))) (fun j hj => (hI.2.2 j hj).trans (if_pos (by omega))) fun j hj => bcN_same hj)
        | succ q ih =>
          intro k M3 t6 t8 t9 t10 hq hk1 hI
          refine wp_drop [some (.ref (b + 1)), some (.ref (b + 2)), some (.ref (b + 3)), some (.ref ap), some (.ref (b + 5)), some (.int st), none, some (.int (nI k)), none, none, none] (by simp [leL]) ?_
          refine wp_iload dL_step_195 rfl ?_
          refine wp_iconst (v := 5) dL_step_197 (by decide) ?_
          refine wp_icN_ge (a := k) (b := 5) (tgt := 263) dL_step_198 (by decide) rfl rfl (by omega) (by omega) (fun h198 => absurd h198 (by omega)) (fun h198 => ?_)
          refine wp_aload_n dL_step_201 rfl ?_
          refine wp_bipush (v := 35) dL_step_202 (by decide) ?_
          refine wp_iload dL_step_204 rfl ?_
          refine wp_iadd dL_step_206 ?_
          refine wp_dup2 dL_step_207 rfl rfl ?_
          refine wp_iadn (i := (35 + k)) (ix_add rfl rfl) hS.l.1 hS.l.2.2.1 (by rw [hS.l.2.1]; omega) hS.l.2.2.2 dL_step_208 ((hI.2.1 (35 + k) (by omega)).trans (if_neg (by omega))) ?_
          refine wp_aload_n dL_step_209 rfl ?_
          refine wp_bipush (v := 35) dL_step_210 (by decide) ?_
          refine wp_iload dL_step_212 rfl ?_
          refine wp_iadd dL_step_214 ?_
          refine wp_iadn (i := (35 + k)) (ix_add rfl rfl) hS.l.1 hS.l.2.2.1 (by rw [hS.l.2.1]; omega) hS.l.2.2.2 dL_step_215 ((hI.2.1 (35 + k) (by omega)).trans (if_neg (by omega))) ?_
          refine wp_aload_n dL_step_216 rfl ?_
          refine wp_iconst (v := 0) dL_step_217 (by decide) ?_
          refine wp_iadn (i := 0) rfl hS.q.1 hS.q.2.2.1 (by rw [hS.q.2.1]; omega) hS.q.2.2.2 dL_step_218 ((congrFun (hI.1 (b + 1) (by omega) (by omega)) 0).trans (hl2.q (by decide))) ?_
          refine wp_iload dL_step_219 rfl ?_
          refine wp_imul dL_step_221 ?_
          refine wp_imul dL_step_222 ?_
          refine wp_sipush (v := 400) dL_step_223 (by decide) ?_
          refine wp_idiv dL_step_226 (by decide) ?_
          refine wp_isub dL_step_227 ?_
          refine wp_iast (i := (35 + k)) (ix_add rfl rfl) hS.l.1 hS.l.2.2.1 (by rw [hS.l.2.1]; omega) hS.l.2.2.2 dL_step_228 ?_
          refine wp_aload_n dL_step_229 rfl ?_
          refine wp_bipush (v := 35) dL_step_230 (by decide) ?_
          refine wp_iload dL_step_232 rfl ?_
          refine wp_iadd dL_step_234 ?_
          refine wp_dup2 dL_step_235 rfl rfl ?_
          refine wp_iadn (i := (35 + k)) (ix_add rfl rfl) hS.s.1 hS.s.2.2.1 (by rw [hS.s.2.1]; omega) hS.s.2.2.2 dL_step_236 ((congrFun (u2_n _ _ _ (by omega)) (35 + k)).trans ((hI.2.2 (35 + k) (by omega)).trans (if_neg (by omega)))) ?_
          refine wp_aload_n dL_step_237 rfl ?_
          refine wp_bipush (v := 35) dL_step_238 (by decide) ?_
          refine wp_iload dL_step_240 rfl ?_
          refine wp_iadd dL_step_242 ?_
          refine wp_iadn (i := (35 + k)) (ix_add rfl rfl) hS.s.1 hS.s.2.2.1 (by rw [hS.s.2.1]; omega) hS.s.2.2.2 dL_step_243 ((congrFun (u2_n _ _ _ (by omega)) (35 + k)).trans ((hI.2.2 (35 + k) (by omega)).trans (if_neg (by omega)))) ?_
          refine wp_aload_n dL_step_244 rfl ?_
          refine wp_iconst (v := 0) dL_step_245 (by decide) ?_
          refine wp_iadn (i := 0) rfl hS.q.1 hS.q.2.2.1 (by rw [hS.q.2.1]; omega) hS.q.2.2.2 dL_step_246 ((congrFun (u2_n _ _ _ (by omega)) 0).trans ((congrFun (hI.1 (b + 1) (by omega) (by omega)) 0).trans (hl2.q (by decide)))) ?_
          refine wp_iload dL_step_247 rfl ?_
          refine wp_imul dL_step_249 ?_
          refine wp_imul dL_step_250 ?_
          refine wp_sipush (v := 400) dL_step_251 (by decide) ?_
          refine wp_idiv dL_step_254 (by decide) ?_
          refine wp_isub dL_step_255 ?_
          refine wp_iast (i := (35 + k)) (ix_add rfl rfl) hS.s.1 hS.s.2.2.1 (by rw [hS.s.2.1]; omega) hS.s.2.2.2 dL_step_256 ?_
          refine wp_iinc (v := nI (k + 1)) (L' := [some (.ref (b + 1)), some (.ref (b + 2)), some (.ref (b + 3)), some (.ref ap), some (.ref (b + 5)), some (.int st), none, some (.int (nI (k + 1))), none, none, none]) dL_step_257 (by decide) rfl (inc_1 _) rfl ?_
          refine wp_goto (tgt := 195) dL_step_260 (by decide) ?_
          exact ih (k + 1) _ _ _ _ _ (by omega) (by omega) (hI.next (by rw [u2_n _ _ _ (by omega), u2_s, bcN_lv (by omega) (by omega), bcV, show 35 + k - 35 = k by omega]) (by rw [u2_s, u2_n _ _ _ (by omega), bcN_sp (by omega) (by omega), bcV, show 35 + k - 35 = k by omega]) fun a a1 a2 => by rw [u2_n _ _ _ a2, u2_n _ _ _ a1])
      refine wp_drop [some (.ref (b + 1)), some (.ref (b + 2)), some (.ref (b + 3)), some (.ref ap), some (.ref (b + 5)), some (.int st), none, none, none, none, none] (by simp [leL]) ?_
      refine wp_iconst (v := 1) dL_step_192 (by decide) ?_
      refine wp_istore (L' := [some (.ref (b + 1)), some (.ref (b + 2)), some (.ref (b + 3)), some (.ref ap), some (.ref (b + 5)), some (.int st), none, some (.int _), none, none, none]) dL_step_193 (by decide) rfl ?_
      exact loop 4 1 M2 _ _ _ _ rfl (by omega) ⟨fun _ _ _ => rfl, fun j hj => by rw [hl2.l hj]; split; rw [bcN_l0 (by omega)]; rfl, fun j hj => by rw [hl2.s hj]; split; rw [bcN_s0 (by omega)]; rfl⟩
    have loop : ∀ (q c : Nat) (lf : Int32) (M2 : Mm) (t8 t9 t10 : Option Value), q + c = 40 → lf = so (6 + (if c = 0 then c else c - 1)) → WtI M1 M2 b so (swB so 40) c → WP γ l mL_step 1 247 247 96 [some (.ref (b + 1)), some (.ref (b + 2)), some (.ref (b + 3)), some (.ref ap), some (.ref (b + 5)), some (.int st), some (.int lf), some (.int (nI c)), t8, t9, t10] [] 247 M2 R K := by
      intro q
      induction q with
      | zero =>
        intro c lf M2 t8 t9 t10 hq hlf hI
        refine wp_drop [some (.ref (b + 1)), some (.ref (b + 2)), some (.ref (b + 3)), some (.ref ap), some (.ref (b + 5)), some (.int st), some (.int lf), some (.int (nI c)), none, none, none] (by simp [leL]) ?_
        refine wp_iload dL_step_96 rfl ?_
        refine wp_bipush (v := 40) dL_step_98 (by decide) ?_
        refine wp_icN_ge (a := c) (b := 40) (tgt := 192) dL_step_100 (by decide) rfl rfl (by omega) (by omega) (fun h100 => ?_) (fun h100 => absurd h100 (by omega))
        exact three M2 _ _ _ _ _ (hF.tr ⟨fun a e1 e2 e3 _ => hI.1 a e2 e3, fun j _ => congrFun (hI.1 (b + 1) (by omega) (by omega)) j⟩) (hl1.waters hS hI.1 (fun j hj => (hI.2.1 j hj).trans (if_pos (by omega))) (fun j hj => (hI.2.2 j hj).trans (if_pos (by omega))) fun j hj => swB_same hj)
      | succ q ih =>
        intro c lf M2 t8 t9 t10 hq hlf hI
        refine wp_drop [some (.ref (b + 1)), some (.ref (b + 2)), some (.ref (b + 3)), some (.ref ap), some (.ref (b + 5)), some (.int st), some (.int lf), some (.int (nI c)), none, none, none] (by simp [leL]) ?_
        refine wp_iload dL_step_96 rfl ?_
        refine wp_bipush (v := 40) dL_step_98 (by decide) ?_
        refine wp_icN_ge (a := c) (b := 40) (tgt := 192) dL_step_100 (by decide) rfl rfl (by omega) (by omega) (fun h100 => absurd h100 (by omega)) (fun h100 => ?_)
        refine wp_aload_n dL_step_103 rfl ?_
        refine wp_iload dL_step_104 rfl ?_
        refine wp_iadn (i := c) rfl hS.l.1 hS.l.2.2.1 (by rw [hS.l.2.1]; omega) hS.l.2.2.2 dL_step_106 ((hI.2.1 c (by omega)).trans (if_neg (by omega))) ?_
        refine wp_istore (L' := [some (.ref (b + 1)), some (.ref (b + 2)), some (.ref (b + 3)), some (.ref ap), some (.ref (b + 5)), some (.int st), some (.int lf), some (.int (nI c)), some (.int (so (6 + c))), none, none]) dL_step_107 (by decide) rfl ?_
        refine wp_iload dL_step_109 rfl ?_
        refine wp_bipush (v := 39) dL_step_111 (by decide) ?_
        refine wp_icN_ne (a := c) (b := 39) (tgt := 121) dL_step_113 (by decide) rfl rfl (by omega) (by omega) (fun h113 => ?_) (fun h113 => ?_)
        · have e39 : ¬ c = 39 := by omega
          refine wp_aload_n dL_step_121 rfl ?_
          refine wp_iload dL_step_122 rfl ?_
          refine wp_iconst (v := 1) dL_step_124 (by decide) ?_
          refine wp_iadd dL_step_125 ?_
          refine wp_iadn (i := (c + 1)) (ix_add rfl rfl) hS.l.1 hS.l.2.2.1 (by rw [hS.l.2.1]; omega) hS.l.2.2.2 dL_step_126 ((hI.2.1 (c + 1) (by omega)).trans (if_neg (by omega))) ?_
          refine wp_istore (L' := [some (.ref (b + 1)), some (.ref (b + 2)), some (.ref (b + 3)), some (.ref ap), some (.ref (b + 5)), some (.int st), some (.int lf), some (.int (nI c)), some (.int (so (6 + c))), some (.int (so (6 + (c + 1)))), none]) dL_step_127 (by decide) rfl ?_
          refine wp_aload_n dL_step_129 rfl ?_
          refine wp_iload dL_step_130 rfl ?_
          refine wp_iadn (i := c) rfl hS.s.1 hS.s.2.2.1 (by rw [hS.s.2.1]; omega) hS.s.2.2.2 dL_step_132 ((hI.2.2 c (by omega)).trans (if_neg (by omega))) ?_
          refine wp_iload dL_step_133 rfl ?_
          refine wp_iload dL_step_135 rfl ?_
          refine wp_iadd dL_step_137 ?_
          refine wp_iload dL_step_138 rfl ?_
          refine wp_isub dL_step_140 ?_
          refine wp_iload dL_step_141 rfl ?_
          refine wp_isub dL_step_143 ?_
          refine wp_iconst (v := 4) dL_step_144 (by decide) ?_
          refine wp_idiv dL_step_145 (by decide) ?_
          refine wp_iadd dL_step_146 ?_
          refine wp_cS1 (z := mL_bound) (n' := 247) kL_20 dL_step_147 (Nat.le_of_ble_eq_true rfl) (Nat.le_of_ble_eq_true rfl) (Nat.le_of_ble_eq_true rfl) (Nat.le_refl _) (Nat.le_refl _) (s_L_bound (wp_af ?_))
          refine wp_istore (L' := [some (.ref (b + 1)), some (.ref (b + 2)), some (.ref (b + 3)), some (.ref ap), some (.ref (b + 5)), some (.int st), some (.int lf), some (.int (nI c)), some (.int (so (6 + c))), some (.int (so (6 + (c + 1)))), some (.int _)]) dL_step_150 (by decide) rfl ?_
          refine wp_aload_n dL_step_152 rfl ?_
          refine wp_iload dL_step_153 rfl ?_
          refine wp_iload dL_step_155 rfl ?_
          refine wp_iload dL_step_157 rfl ?_
          refine wp_aload_n dL_step_159 rfl ?_
          refine wp_iconst (v := 1) dL_step_160 (by decide) ?_
          refine wp_iadn (i := 1) rfl hS.q.1 hS.q.2.2.1 (by rw [hS.q.2.1]; omega) hS.q.2.2.2 dL_step_161 ((congrFun (hI.1 (b + 1) (by omega) (by omega)) 1).trans (hl1.q (by decide))) ?_
          refine wp_imul dL_step_162 ?_
          refine wp_bipush (v := 100) dL_step_163 (by decide) ?_
          refine wp_idiv dL_step_165 (by decide) ?_
          refine wp_isub dL_step_166 ?_
          refine wp_top (z := spdV so c) (by rw [spdV, hlf, ← sub_2]; first | rw [if_pos e39] | rw [if_neg e39]) ?_
          refine wp_iast (i := c) rfl hS.s.1 hS.s.2.2.1 (by rw [hS.s.2.1]; omega) hS.s.2.2.2 dL_step_167 ?_
          refine wp_iload dL_step_168 rfl ?_
          refine wp_istore (L' := [some (.ref (b + 1)), some (.ref (b + 2)), some (.ref (b + 3)), some (.ref ap), some (.ref (b + 5)), some (.int st), some (.int (so (6 + c))), some (.int (nI c)), some (.int (so (6 + c))), some (.int (so (6 + (c + 1)))), some (.int _)]) dL_step_170 (by decide) rfl ?_
          refine wp_aload_n dL_step_172 rfl ?_
          refine wp_iload dL_step_173 rfl ?_
          refine wp_iload dL_step_175 rfl ?_
          refine wp_aload_n dL_step_177 rfl ?_
          refine wp_iload dL_step_178 rfl ?_
          refine wp_iadn (i := c) rfl hS.s.1 hS.s.2.2.1 (by rw [hS.s.2.1]; omega) hS.s.2.2.2 dL_step_180 ((congrFun (u2_s _ _ _ _) c).trans (up_s _ _ _)) ?_
          refine wp_iadd dL_step_181 ?_
          refine wp_cS1 (z := mL_bound) (n' := 247) kL_20 dL_step_182 (Nat.le_of_ble_eq_true rfl) (Nat.le_of_ble_eq_true rfl) (Nat.le_of_ble_eq_true rfl) (Nat.le_refl _) (Nat.le_refl _) (s_L_bound (wp_af ?_))
          refine wp_iast (i := c) rfl hS.l.1 hS.l.2.2.1 (by rw [hS.l.2.1]; omega) hS.l.2.2.2 dL_step_185 ?_
          refine wp_iinc (v := nI (c + 1)) (L' := [some (.ref (b + 1)), some (.ref (b + 2)), some (.ref (b + 3)), some (.ref ap), some (.ref (b + 5)), some (.int st), some (.int (so (6 + c))), some (.int (nI (c + 1))), some (.int (so (6 + c))), some (.int (so (6 + (c + 1)))), some (.int _)]) dL_step_186 (by decide) rfl (inc_1 _) rfl ?_
          refine wp_goto (tgt := 96) dL_step_189 (by decide) ?_
          exact ih (c + 1) _ _ _ _ _ (by omega) (by rw [if_neg (by omega)]; rfl) (hI.next (by rw [u2_s, u2_n _ _ _ (by omega), swB_lv (by omega)]) (by rw [u2_n _ _ _ (by omega), u2_s, swB_sp (by omega)]) fun a a1 a2 => by rw [u2_n _ _ _ a1, u2_n _ _ _ a2])
        · have e39 : c = 39 := by omega
          refine wp_iload dL_step_116 rfl ?_
          refine wp_goto (tgt := 127) dL_step_118 (by decide) ?_
          refine wp_istore (L' := [some (.ref (b + 1)), some (.ref (b + 2)), some (.ref (b + 3)), some (.ref ap), some (.ref (b + 5)), some (.int st), some (.int lf), some (.int (nI c)), some (.int (so (6 + c))), some (.int (so (6 + c))), none]) dL_step_127 (by decide) rfl ?_
          refine wp_aload_n dL_step_129 rfl ?_
          refine wp_iload dL_step_130 rfl ?_
          refine wp_iadn (i := c) rfl hS.s.1 hS.s.2.2.1 (by rw [hS.s.2.1]; omega) hS.s.2.2.2 dL_step_132 ((hI.2.2 c (by omega)).trans (if_neg (by omega))) ?_
          refine wp_iload dL_step_133 rfl ?_
          refine wp_iload dL_step_135 rfl ?_
          refine wp_iadd dL_step_137 ?_
          refine wp_iload dL_step_138 rfl ?_
          refine wp_isub dL_step_140 ?_
          refine wp_iload dL_step_141 rfl ?_
          refine wp_isub dL_step_143 ?_
          refine wp_iconst (v := 4) dL_step_144 (by decide) ?_
          refine wp_idiv dL_step_145 (by decide) ?_
          refine wp_iadd dL_step_146 ?_
          refine wp_cS1 (z := mL_bound) (n' := 247) kL_20 dL_step_147 (Nat.le_of_ble_eq_true rfl) (Nat.le_of_ble_eq_true rfl) (Nat.le_of_ble_eq_true rfl) (Nat.le_refl _) (Nat.le_refl _) (s_L_bound (wp_af ?_))
          refine wp_istore (L' := [some (.ref (b + 1)), some (.ref (b + 2)), some (.ref (b + 3)), some (.ref ap), some (.ref (b + 5)), some (.int st), some (.int lf), some (.int (nI c)), some (.int (so (6 + c))), some (.int (so (6 + c))), some (.int _)]) dL_step_150 (by decide) rfl ?_
          refine wp_aload_n dL_step_152 rfl ?_
          refine wp_iload dL_step_153 rfl ?_
          refine wp_iload dL_step_155 rfl ?_
          refine wp_iload dL_step_157 rfl ?_
          refine wp_aload_n dL_step_159 rfl ?_
          refine wp_iconst (v := 1) dL_step_160 (by decide) ?_
          refine wp_iadn (i := 1) rfl hS.q.1 hS.q.2.2.1 (by rw [hS.q.2.1]; omega) hS.q.2.2.2 dL_step_161 ((congrFun (hI.1 (b + 1) (by omega) (by omega)) 1).trans (hl1.q (by decide))) ?_
          refine wp_imul dL_step_162 ?_
          refine wp_bipush (v := 100) dL_step_163 (by decide) ?_
          refine wp_idiv dL_step_165 (by decide) ?_
          refine wp_isub dL_step_166 ?_
          refine wp_top (z := spdV so c) (by rw [spdV, hlf, ← sub_2]; first | rw [if_pos e39] | rw [if_neg e39]) ?_
          refine wp_iast (i := c) rfl hS.s.1 hS.s.2.2.1 (by rw [hS.s.2.1]; omega) hS.s.2.2.2 dL_step_167 ?_
          refine wp_iload dL_step_168 rfl ?_
          refine wp_istore (L' := [some (.ref (b + 1)), some (.ref (b + 2)), some (.ref (b + 3)), some (.ref ap), some (.ref (b + 5)), some (.int st), some (.int (so (6 + c))), some (.int (nI c)), some (.int (so (6 + c))), some (.int (so (6 + c))), some (.int _)]) dL_step_170 (by decide) rfl ?_
          refine wp_aload_n dL_step_172 rfl ?_
          refine wp_iload dL_step_173 rfl ?_
          refine wp_iload dL_step_175 rfl ?_
          refine wp_aload_n dL_step_177 rfl ?_
          refine wp_iload dL_step_178 rfl ?_
          refine wp_iadn (i := c) rfl hS.s.1 hS.s.2.2.1 (by rw [hS.s.2.1]; omega) hS.s.2.2.2 dL_step_180 ((congrFun (u2_s _ _ _ _) c).trans (up_s _ _ _)) ?_
          refine wp_iadd dL_step_181 ?_
          refine wp_cS1 (z := mL_bound) (n' := 247) kL_20 dL_step_182 (Nat.le_of_ble_eq_true rfl) (Nat.le_of_ble_eq_true rfl) (Nat.le_of_ble_eq_true rfl) (Nat.le_refl _) (Nat.le_refl _) (s_L_bound (wp_af ?_))
          refine wp_iast (i := c) rfl hS.l.1 hS.l.2.2.1 (by rw [hS.l.2.1]; omega) hS.l.2.2.2 dL_step_185 ?_
          refine wp_iinc (v := nI (c + 1)) (L' := [some (.ref (b + 1)), some (.ref (b + 2)), some (.ref (b + 3)), some (.ref ap), some (.ref (b + 5)), some (.int st), some (.int (so (6 + c))), some (.int (nI (c + 1))), some (.int (so (6 + c))), some (.int (so (6 + c))), some (.int _)]) dL_step_186 (by decide) rfl (inc_1 _) rfl ?_
          refine wp_goto (tgt := 96) dL_step_189 (by decide) ?_
          exact ih (c + 1) _ _ _ _ _ (by omega) (by rw [if_neg (by omega)]; rfl) (hI.next (by rw [u2_s, u2_n _ _ _ (by omega), swB_lv (by omega)]) (by rw [u2_n _ _ _ (by omega), u2_s, swB_sp (by omega)]) fun a a1 a2 => by rw [u2_n _ _ _ a1, u2_n _ _ _ a2])
    refine wp_aload_n dL_step_88 rfl ?_
    refine wp_iconst (v := 0) dL_step_89 (by decide) ?_
    refine wp_iadn (i := 0) rfl hS.l.1 hS.l.2.2.1 (by rw [hS.l.2.1]; omega) hS.l.2.2.2 dL_step_90 (hl1.l (by decide)) ?_
    refine wp_istore (L' := [some (.ref (b + 1)), some (.ref (b + 2)), some (.ref (b + 3)), some (.ref ap), some (.ref (b + 5)), some (.int st), some (.int (so 6)), none, none, none, none]) dL_step_91 (by decide) rfl ?_
    refine wp_iconst (v := 0) dL_step_93 (by decide) ?_
    refine wp_istore (L' := [some (.ref (b + 1)), some (.ref (b + 2)), some (.ref (b + 3)), some (.ref ap), some (.ref (b + 5)), some (.int st), some (.int (so 6)), some (.int _), none, none, none]) dL_step_94 (by decide) rfl ?_
    exact loop 40 0 _ M1 _ _ _ rfl rfl ⟨fun _ _ _ => rfl, fun j hj => by rw [if_neg (by omega)]; exact hl1.l hj, fun j hj => by rw [if_neg (by omega)]; exact hl1.s hj⟩
  have hnp : cnt (M ap) 36 = np := hl.pl.2.2.1
  have loop : ∀ (q c : Nat) (st : Int32) (M1 : Mm) (ro : Nat → Int32) (t7 t8 t9 t10 : Option Value), q + c = 36 → st = pcN sg (cnt (M ap) c) → ro = paN sg (cnt (M ap) c) → FrL b M M1 → LT M1 b ap np ro → WP γ l mL_step 1 247 247 6 [some (.ref (b + 1)), some (.ref (b + 2)), some (.ref (b + 3)), some (.ref ap), some (.ref (b + 5)), some (.int st), some (.int (nI c)), t7, t8, t9, t10] [] 247 M1 R K := by
    intro q
    induction q with
    | zero =>
      intro c st M1 ro t7 t8 t9 t10 hq hst hro hF hl1
      obtain rfl : c = 36 := by omega
      rw [hnp] at hst hro
      refine wp_drop [some (.ref (b + 1)), some (.ref (b + 2)), some (.ref (b + 3)), some (.ref ap), some (.ref (b + 5)), some (.int st), some (.int (nI 36)), none, none, none, none] (by simp [leL]) ?_
      refine wp_iload dL_step_6 rfl ?_
      refine wp_bipush (v := 36) dL_step_8 (by decide) ?_
      refine wp_icN_ge (a := 36) (b := 36) (tgt := 88) dL_step_10 (by decide) rfl rfl (by omega) (by omega) (fun _ => ?_) (fun h => absurd h (by decide))
      refine wp_drop [some (.ref (b + 1)), some (.ref (b + 2)), some (.ref (b + 3)), some (.ref ap), some (.ref (b + 5)), some (.int st), none, none, none, none, none] (by simp [leL]) ?_
      exact two st M1 hst hF (by rw [← hro]; exact hl1)
    | succ q ih =>
      intro c st M1 ro t7 t8 t9 t10 hq hst hro hF hl1
      have hc : c < 36 := by omega
      have hap : M1 ap = M ap := hF.1 ap (by omega) (by omega) (by omega) (by omega)
      have hle := cnt_mono (M ap) (show c ≤ 36 by omega)
      have ho1 : Ok0 ro np ng := by rw [hro]; exact ho.kpaN _ (by omega)
      refine wp_drop [some (.ref (b + 1)), some (.ref (b + 2)), some (.ref (b + 3)), some (.ref ap), some (.ref (b + 5)), some (.int st), some (.int (nI c)), none, none, none, none] (by simp [leL]) ?_
      rcases hl.pl.at hc with hz | ⟨k, hk, hp⟩
      · have e1 := cnt_z hz
        refine wp_iload dL_step_6 rfl ?_
        refine wp_bipush (v := 36) dL_step_8 (by decide) ?_
        refine wp_icN_ge (a := c) (b := 36) (tgt := 88) dL_step_10 (by decide) rfl rfl (by omega) (by omega) (fun h10 => absurd h10 (by omega)) (fun h10 => ?_)
        refine wp_aload_n dL_step_13 rfl ?_
        refine wp_iload dL_step_14 rfl ?_
        refine wp_iadn (i := c) rfl hS.p.1 hS.p.2.2.1 (by rw [hS.p.2.1]; omega) hS.p.2.2.2 dL_step_16 ((congrFun hap c).trans hz) ?_
        refine wp_iconst (v := 1) dL_step_17 (by decide) ?_
        refine wp_isub dL_step_18 ?_
        refine wp_istore (L' := [some (.ref (b + 1)), some (.ref (b + 2)), some (.ref (b + 3)), some (.ref ap), some (.ref (b + 5)), some (.int st), some (.int (nI c)), some (.int _), none, none, none]) dL_step_19 (by decide) rfl ?_
        refine wp_iload dL_step_21 rfl ?_
        refine wp_if_lt (tgt := 82) dL_step_23 (by decide) (fun h23 => ?_) (fun h23 => absurd (by decide) h23)
        refine wp_iinc (v := nI (c + 1)) (L' := [some (.ref (b + 1)), some (.ref (b + 2)), some (.ref (b + 3)), some (.ref ap), some (.ref (b + 5)), some (.int st), some (.int (nI (c + 1))), some (.int _), none, none, none]) dL_step_82 (by decide) rfl (inc_1 _) rfl ?_
        refine wp_goto (tgt := 6) dL_step_85 (by decide) ?_
        exact ih (c + 1) st M1 ro _ _ _ _ (by omega) (by rw [e1]; exact hst) (by rw [e1]; exact hro) hF hl1
      · have n0 : ¬ M ap c = 0 := by rw [hp]; exact nI_s0 (by omega)
        have hp1 : M1 ap c = nI (k + 1) := by rw [hap]; exact hp
        have e1 := cnt_n n0
        have ec : cnt (M1 ap) c = cnt (M ap) c := by rw [hap]
        have hlt := hl.pl.lt hc n0
        obtain ⟨g1, g2⟩ := hl1.pl.2.2.2 c k hc hk hp1
        rw [ec] at g1 g2
        obtain ⟨r, hr⟩ : ∃ r, r = cnt (M ap) c := ⟨_, rfl⟩
        rw [← hr] at g1 g2 hst hro e1 hlt ec hle
        obtain ⟨-, -, -, ⟨p, hpe1, hpe2, hpv⟩, -, hgo⟩ := ho1.2.2.1 r hlt
        have ecel : cel ro r = c := by rw [cel, g1, nI_clamp (by omega)]
        have f0 : M1 (b + 5) (5 * k) = ro (86 + 6 * r + 1) := (g2 0 (by omega)).symm
        have f1 : M1 (b + 5) (5 * k + 1) = ro (86 + 6 * r + 2) := (g2 1 (by omega)).symm
        have f2 : M1 (b + 5) (5 * k + 2) = nI p := (g2 2 (by omega)).symm.trans hpv
        have f3 : M1 (b + 5) (5 * k + 3) = ro (86 + 6 * r + 4) := (g2 3 (by omega)).symm
        have f4 : M1 (b + 5) (5 * k + 4) = ro (86 + 6 * r + 5) := (g2 4 (by omega)).symm
        have epu : pushV (ro (86 + 6 * r + 1)) (ro (86 + 6 * r + 2)) (nI p) (remI (ro 3 + ro (86 + 6 * r + 4)) (nI p)) = pushS ro r := by rw [pushS, hpv]
        have nxt : ∀ (st1 : Int32) (M2 : Mm) (t7 t8 t9 t10 : Option Value), st1 = st + pc1 ro r → FrL b M M2 → LT M2 b ap np (pa1 ro r) → WP γ l mL_step 1 247 247 6 [some (.ref (b + 1)), some (.ref (b + 2)), some (.ref (b + 3)), some (.ref ap), some (.ref (b + 5)), some (.int st1), some (.int (nI (c + 1))), t7, t8, t9, t10] [] 247 M2 R K := fun st1 M2 t7 t8 t9 t10 q1 q2 q3 => ih (c + 1) st1 M2 _ _ _ _ _ (by omega) (by rw [q1, hst, hro, e1]; rfl) (by rw [hro, e1]; rfl) q2 q3
        rcases hgo with g0 | gs
        · have ep : pa1 ro r = ro := by rw [pa1, if_neg (by rw [g0]; decide)]
          have eq : pc1 ro r = 0 := by rw [pc1, if_neg (by rw [g0]; decide)]
          refine wp_iload dL_step_6 rfl ?_
          refine wp_bipush (v := 36) dL_step_8 (by decide) ?_
          refine wp_icN_ge (a := c) (b := 36) (tgt := 88) dL_step_10 (by decide) rfl rfl (by omega) (by omega) (fun h10 => absurd h10 (by omega)) (fun h10 => ?_)
          refine wp_aload_n dL_step_13 rfl ?_
          refine wp_iload dL_step_14 rfl ?_
          refine wp_iadn (i := c) (v := nI (k + 1)) rfl hS.p.1 hS.p.2.2.1 (by rw [hS.p.2.1]; omega) hS.p.2.2.2 dL_step_16 (hp1) ?_
          refine wp_iconst (v := 1) dL_step_17 (by decide) ?_
          refine wp_isub dL_step_18 ?_
          refine wp_top (nI_pred k) ?_
          refine wp_istore (L' := [some (.ref (b + 1)), some (.ref (b + 2)), some (.ref (b + 3)), some (.ref ap), some (.ref (b + 5)), some (.int st), some (.int (nI c)), some (.int (nI k)), none, none, none]) dL_step_19 (by decide) rfl ?_
          refine wp_iload dL_step_21 rfl ?_
          refine wp_ifN_lt (a := k) (tgt := 82) dL_step_23 (by decide) rfl (by omega) ?_
          refine wp_aload dL_step_26 rfl ?_
          refine wp_iconst (v := 5) dL_step_28 (by decide) ?_
          refine wp_iload dL_step_29 rfl ?_
          refine wp_imul dL_step_31 ?_
          refine wp_iconst (v := 4) dL_step_32 (by decide) ?_
          refine wp_iadd dL_step_33 ?_
          refine wp_iadn (i := ((5 * k) + 4)) (v := nI 0) (ix_add (ix_mul rfl rfl) rfl) hS.r.1 hS.r.2.2.1 (by rw [hS.r.2.1]; omega) hS.r.2.2.2 dL_step_34 (f4.trans g0) ?_
          refine wp_ifN_ne (a := 0) (tgt := 41) dL_step_35 (by decide) rfl (by omega) (fun h => absurd h (by decide)) (fun _ => ?_)
          refine wp_goto (tgt := 82) dL_step_38 (by decide) ?_
          refine wp_iinc (v := nI (c + 1)) (L' := [some (.ref (b + 1)), some (.ref (b + 2)), some (.ref (b + 3)), some (.ref ap), some (.ref (b + 5)), some (.int st), some (.int (nI (c + 1))), some (.int (nI k)), none, none, none]) dL_step_82 (by decide) rfl (inc_1 _) rfl ?_
          refine wp_goto (tgt := 6) dL_step_85 (by decide) ?_
          exact nxt st M1 _ _ _ _ (by rw [eq, Int32.add_zero]) hF (by rw [ep]; exact hl1)
        · refine wp_iload dL_step_6 rfl ?_
          refine wp_bipush (v := 36) dL_step_8 (by decide) ?_
          refine wp_icN_ge (a := c) (b := 36) (tgt := 88) dL_step_10 (by decide) rfl rfl (by omega) (by omega) (fun h10 => absurd h10 (by omega)) (fun h10 => ?_)
          refine wp_aload_n dL_step_13 rfl ?_
          refine wp_iload dL_step_14 rfl ?_
          refine wp_iadn (i := c) (v := nI (k + 1)) rfl hS.p.1 hS.p.2.2.1 (by rw [hS.p.2.1]; omega) hS.p.2.2.2 dL_step_16 (hp1) ?_
          refine wp_iconst (v := 1) dL_step_17 (by decide) ?_
          refine wp_isub dL_step_18 ?_
          refine wp_top (nI_pred k) ?_
          refine wp_istore (L' := [some (.ref (b + 1)), some (.ref (b + 2)), some (.ref (b + 3)), some (.ref ap), some (.ref (b + 5)), some (.int st), some (.int (nI c)), some (.int (nI k)), none, none, none]) dL_step_19 (by decide) rfl ?_
          refine wp_iload dL_step_21 rfl ?_
          refine wp_ifN_lt (a := k) (tgt := 82) dL_step_23 (by decide) rfl (by omega) ?_
          refine wp_aload dL_step_26 rfl ?_
          refine wp_iconst (v := 5) dL_step_28 (by decide) ?_
          refine wp_iload dL_step_29 rfl ?_
          refine wp_imul dL_step_31 ?_
          refine wp_iconst (v := 4) dL_step_32 (by decide) ?_
          refine wp_iadd dL_step_33 ?_
          refine wp_iadn (i := ((5 * k) + 4)) (v := nI 1) (ix_add (ix_mul rfl rfl) rfl) hS.r.1 hS.r.2.2.1 (by rw [hS.r.2.1]; omega) hS.r.2.2.2 dL_step_34 (f4.trans gs) ?_
          refine wp_ifN_ne (a := 1) (tgt := 41) dL_step_35 (by decide) rfl (by omega) (fun _ => ?_) (fun h => absurd h (by decide))
          refine wp_aload_n dL_step_41 rfl ?_
          refine wp_iload dL_step_42 rfl ?_
          refine wp_iadn (i := c) rfl hS.l.1 hS.l.2.2.1 (by rw [hS.l.2.1]; omega) hS.l.2.2.2 dL_step_44 (hl1.l (by omega)) ?_
          refine wp_cS1 (z := mL_abs) (n' := 247) kL_10 dL_step_45 (Nat.le_of_ble_eq_true rfl) (Nat.le_of_ble_eq_true rfl) (Nat.le_of_ble_eq_true rfl) (Nat.le_refl _) (Nat.le_refl _) (s_L_abs (wp_af ?_))
          refine wp_aload_n dL_step_48 rfl ?_
          refine wp_iconst (v := 2) dL_step_49 (by decide) ?_
          refine wp_iadn (i := 2) rfl hS.q.1 hS.q.2.2.1 (by rw [hS.q.2.1]; omega) hS.q.2.2.2 dL_step_50 (hl1.q (by decide)) ?_
          refine wp_icmp_le (tgt := 70) dL_step_51 (by decide) (fun h51 => ?_) (fun h51 => ?_)
          · have ep : pa1 ro r = up ro (6 + c) (pushS ro r) := by
              rw [pa1, if_pos gs, ecel, if_neg (Int32.not_lt.mpr h51)]
              congr 1
              rw [← gs, up_eta]
            have eq : pc1 ro r = 0 := by rw [pc1, if_pos gs, ecel, if_neg (Int32.not_lt.mpr h51)]
            refine wp_aload_n dL_step_70 rfl ?_
            refine wp_iload dL_step_71 rfl ?_
            refine wp_iload dL_step_73 rfl ?_
            refine wp_aload_n dL_step_75 rfl ?_
            refine wp_aload dL_step_76 rfl ?_
            refine wp_cS3 (z := mL_push) (n' := 247) kL_16 dL_step_78 (Nat.le_of_ble_eq_true rfl) (Nat.le_of_ble_eq_true rfl) (Nat.le_of_ble_eq_true rfl) (Nat.le_refl _) (Nat.le_refl _) (s_L_push hS.q hS.r hk f0 f1 f2 f3 (hl1.q (by decide)) hpe1 hpe2 (wp_af ?_))
            refine wp_top epu ?_
            refine wp_iast (i := c) rfl hS.l.1 hS.l.2.2.1 (by rw [hS.l.2.1]; omega) hS.l.2.2.2 dL_step_81 ?_
            refine wp_iinc (v := nI (c + 1)) (L' := [some (.ref (b + 1)), some (.ref (b + 2)), some (.ref (b + 3)), some (.ref ap), some (.ref (b + 5)), some (.int st), some (.int (nI (c + 1))), some (.int (nI k)), none, none, none]) dL_step_82 (by decide) rfl (inc_1 _) rfl ?_
            refine wp_goto (tgt := 6) dL_step_85 (by decide) ?_
            first
              | exact nxt _ _ _ _ _ _ (by rw [eq]; rfl) (hF.tr ⟨fun a _ _ _ q => u2_n _ _ _ q, fun j _ => by rw [u2_n _ _ _ (by omega)]⟩) (by rw [ep]; have h := hl1.urec hS hc hk hp1 (i := 4) (by omega) 0; rw [ec] at h; exact h)
              | exact nxt st _ _ _ _ _ (by rw [eq, Int32.add_zero]) (hF.tr ⟨fun a _ q _ _ => u2_n _ _ _ q, fun j _ => by rw [u2_n _ _ _ (by omega)]⟩) (by rw [ep]; exact hl1.ulev hS (by omega) _)
          · have ep : pa1 ro r = up ro (86 + 6 * r + 5) 0 := by rw [pa1, if_pos gs, ecel, if_pos (Int32.not_le.mp h51)]
            have eq : pc1 ro r = 1 := by rw [pc1, if_pos gs, ecel, if_pos (Int32.not_le.mp h51)]
            refine wp_aload dL_step_54 rfl ?_
            refine wp_iconst (v := 5) dL_step_56 (by decide) ?_
            refine wp_iload dL_step_57 rfl ?_
            refine wp_imul dL_step_59 ?_
            refine wp_iconst (v := 4) dL_step_60 (by decide) ?_
            refine wp_iadd dL_step_61 ?_
            refine wp_iconst (v := 0) dL_step_62 (by decide) ?_
            refine wp_iast (i := ((5 * k) + 4)) (ix_add (ix_mul rfl rfl) rfl) hS.r.1 hS.r.2.2.1 (by rw [hS.r.2.1]; omega) hS.r.2.2.2 dL_step_63 ?_
            refine wp_iinc (v := _) (L' := [some (.ref (b + 1)), some (.ref (b + 2)), some (.ref (b + 3)), some (.ref ap), some (.ref (b + 5)), some (.int _), some (.int (nI c)), some (.int (nI k)), none, none, none]) dL_step_64 (by decide) rfl rfl rfl ?_
            refine wp_goto (tgt := 82) dL_step_67 (by decide) ?_
            refine wp_iinc (v := nI (c + 1)) (L' := [some (.ref (b + 1)), some (.ref (b + 2)), some (.ref (b + 3)), some (.ref ap), some (.ref (b + 5)), some (.int _), some (.int (nI (c + 1))), some (.int (nI k)), none, none, none]) dL_step_82 (by decide) rfl (inc_1 _) rfl ?_
            refine wp_goto (tgt := 6) dL_step_85 (by decide) ?_
            first
              | exact nxt _ _ _ _ _ _ (by rw [eq]; rfl) (hF.tr ⟨fun a _ _ _ q => u2_n _ _ _ q, fun j _ => by rw [u2_n _ _ _ (by omega)]⟩) (by rw [ep]; have h := hl1.urec hS hc hk hp1 (i := 4) (by omega) 0; rw [ec] at h; exact h)
              | exact nxt st _ _ _ _ _ (by rw [eq, Int32.add_zero]) (hF.tr ⟨fun a _ q _ _ => u2_n _ _ _ q, fun j _ => by rw [u2_n _ _ _ (by omega)]⟩) (by rw [ep]; exact hl1.ulev hS (by omega) _)
  refine wp_iconst (v := 0) dL_step_0 (by decide) ?_
  refine wp_istore (L' := [some (.ref (b + 1)), some (.ref (b + 2)), some (.ref (b + 3)), some (.ref ap), some (.ref (b + 5)), some (.int _), none, none, none, none, none]) dL_step_1 (by decide) rfl ?_
  refine wp_iconst (v := 0) dL_step_3 (by decide) ?_
  refine wp_istore (L' := [some (.ref (b + 1)), some (.ref (b + 2)), some (.ref (b + 3)), some (.ref ap), some (.ref (b + 5)), some (.int _), some (.int _), none, none, none, none]) dL_step_4 (by decide) rfl ?_
  exact loop 36 0 0 M sg _ _ _ _ rfl rfl rfl (FrL.rf b M) hl

