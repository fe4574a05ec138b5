/-! THE LAW: its acts -/
theorem s_lowX {γ : Gm} {l : Launch} {M : Mm} {R : Rm} {K : KT} {v : Int32} {n : Nat} (h0 : 0 < n) (hn : n < 2 ^ 31) (hK : ∀ r, r < n → K (some (.int (nI r))) 247 M R) : CL γ l mL_low 0 247 247 [.int v, .int (nI n)] M R K := s_L_low h0 hn (hK _ (lowN_lt v h0))
theorem LawI.of {M : Mm} {R : Rm} {t s : Nat} {sg tx F : Nat → Int32} {rc pl : Nat} {hs S : Nat → Nat → Int32} (c : IC M R sg rc hs F S tx pl) (hl : LT M 234 238 (nP sg) sg) (hq : M 235 4 = nI (nP sg)) (hG : GL (M 240) (M 241) sg s) (h3 : sg 3 = nI s) (hst : s ≤ 99 * t) : LawI M R t := ⟨sg, tx, F, rc, pl, hs, S, s, c, hl, hq, hG, h3, hst⟩
theorem LT.uset {M : Mm} {b ap np : Nat} {sg : Nat → Int32} (h : LT M b ap np sg) (hS : SA b ap) {w : Nat} (hw : w < 3) (v : Int32) : LT (u2 M (b + 1) w v) b ap np (up sg w v) := by
  have := hS.rg
  refine ⟨fun j hj => ?_, fun e he => by rw [u2_n _ _ _ (by omega), up_n _ _ (by omega)]; exact h.2.1 e he, fun e he => by rw [u2_n _ _ _ (by omega), up_n _ _ (by omega)]; exact h.2.2.1 e he, ?_⟩
  · rw [u2_s]
    by_cases q : j = w
    · rw [q, up_s, up_s]
    · rw [up_n _ _ q, up_n _ _ q]
      exact h.1 j hj
  · rw [u2_n _ _ _ (by omega), u2_n _ _ _ (by omega)]
    exact h.pl.cong fun j h1 _ => up_n _ _ (by omega)
theorem nP_of {sg so : Nat → Int32} (e : so 4 = sg 4) : nP so = nP sg := by rw [nP, nP, e]
theorem nG_0 {sg : Nat → Int32} (h : sg 5 = 0) : nG sg = 0 := by rw [nG, h]; decide
theorem nG_1 {sg : Nat → Int32} (h : sg 5 = 1) : nG sg = 1 := by rw [nG, h]; decide
theorem neg_k (k : Nat) : -((-1 : Int32) - nI k) = nI (k + 1) := by rw [Int32.neg_sub, Int32.sub_eq_add_neg, Int32.neg_neg, nI_1]
/-- whether a recipe is taken, in the cells below i -/
def TI (pa : Nat → Int32) (k i : Nat) (v : Int32) : Prop := (¬ v = 0 ∧ ∃ e, e < i ∧ pa e = nI (k + 1)) ∨ (v = 0 ∧ ∀ e, e < i → ¬ pa e = nI (k + 1))
theorem TI.o {pa : Nat → Int32} {k i : Nat} {v : Int32} (h : TI pa k i v) (h0 : ¬ v = 0) : TI pa k (i + 1) 1 := by
  rcases h with ⟨-, e, h1, h2⟩ | h
  · exact Or.inl ⟨by decide, e, by omega, h2⟩
  · exact absurd h.1 h0
theorem TI.n {pa : Nat → Int32} {k i : Nat} (h : pa i = nI k + 1) : TI pa k (i + 1) 1 := Or.inl ⟨by decide, i, by omega, by rw [h, nI_1]⟩
theorem TI.z {pa : Nat → Int32} {k i : Nat} {v : Int32} (h : TI pa k i v) (h0 : v = 0) (h1 : ¬ pa i = nI k + 1) : TI pa k (i + 1) 0 := by
  rcases h with h | ⟨-, h⟩
  · exact absurd h0 h.1
  · refine Or.inr ⟨rfl, fun e he => ?_⟩
    by_cases q : e = i
    · rw [q, ← nI_1]; exact h1
    · exact h e (by omega)
set_option maxRecDepth 100000 in
set_option maxHeartbeats 4000000 in
theorem lk_set {γ : Gm} {l : Launch} {M : Mm} {R : Rm} {K : KT} {x y : Int32} {sg tx F : Nat → Int32} {rc pl t kd c s : Nat} {hs S : Nat → Nat → Int32} {t19 t20 t21 t22 t23 t24 t25 t26 : Option Value} (hc : IC M R sg rc hs F S tx pl) (hl : LT M 234 238 (nP sg) sg) (hq4 : M 235 4 = nI (nP sg)) (hG : GL (M 240) (M 241) sg s) (hs3 : sg 3 = nI s) (hst : s ≤ 99 * t) (ht : t < 24) (kk : ∀ M1 R1 (t19 t20 t21 t22 t23 t24 t25 t26 : Option Value), LawI M1 R1 (t + 1) → WP γ l mL_law 9 8 247 910 [some (.ref 4), some (.ref 8), some (.ref 235), some (.ref 236), some (.ref 237), some (.ref 238), some (.ref 239), some (.ref 240), some (.ref 241), some (.ref 242), some (.ref 243), some (.ref 244), some (.ref 245), some (.ref 246), some (.int (nI t)), some (.int x), some (.int y), some (.int (nI kd)), some (.int (nI c)), t19, t20, t21, t22, t23, t24, t25, t26] [] 247 M1 R1 K)  : WP γ l mL_law 9 8 247 830 [some (.ref 4), some (.ref 8), some (.ref 235), some (.ref 236), some (.ref 237), some (.ref 238), some (.ref 239), some (.ref 240), some (.ref 241), some (.ref 242), some (.ref 243), some (.ref 244), some (.ref 245), some (.ref 246), some (.int (nI t)), some (.int x), some (.int y), some (.int (nI kd)), some (.int (nI c)), t19, t20, t21, t22, t23, t24, t25, t26] [] 247 M R K := by
  have h6 := hc.ok.p6
  have hS : SA 234 238 := Or.inl ⟨rfl, rfl⟩
  have s885 : ∀ (w v : Nat) (t20 t21 t22 t23 t24 t25 t26 : Option Value), w < 3 → svOk (nI w) (nI v) → WP γ l mL_law 9 8 247 885 [some (.ref 4), some (.ref 8), some (.ref 235), some (.ref 236), some (.ref 237), some (.ref 238), some (.ref 239), some (.ref 240), some (.ref 241), some (.ref 242), some (.ref 243), some (.ref 244), some (.ref 245), some (.ref 246), some (.int (nI t)), some (.int x), some (.int y), some (.int (nI kd)), some (.int (nI c)), some (.int (nI w)), t20, t21, t22, t23, t24, t25, t26] [.int (nI v)] 247 M R K := by
    intro w v t20 t21 t22 t23 t24 t25 t26 hw hsv
    refine wp_drop [some (.ref 4), some (.ref 8), some (.ref 235), some (.ref 236), some (.ref 237), some (.ref 238), some (.ref 239), some (.ref 240), some (.ref 241), some (.ref 242), some (.ref 243), some (.ref 244), some (.ref 245), some (.ref 246), some (.int (nI t)), some (.int x), some (.int y), some (.int (nI kd)), some (.int (nI c)), some (.int (nI w)), none, none, none, none, none, none, none] (by simp [leL]) ?_
    refine wp_istore (L' := [some (.ref 4), some (.ref 8), some (.ref 235), some (.ref 236), some (.ref 237), some (.ref 238), some (.ref 239), some (.ref 240), some (.ref 241), some (.ref 242), some (.ref 243), some (.ref 244), some (.ref 245), some (.ref 246), some (.int (nI t)), some (.int x), some (.int y), some (.int (nI kd)), some (.int (nI c)), some (.int (nI w)), some (.int (nI v)), none, none, none, none, none, none]) dL_law_885 (by decide) rfl ?_
    refine wp_aload_n dL_law_887 rfl ?_
    refine wp_iload dL_law_888 rfl ?_
    refine wp_iload dL_law_890 rfl ?_
    refine wp_cV2 (z := mX5_set) (n' := 247) kL_92 dL_law_892 (Nat.le_of_ble_eq_true rfl) (Nat.le_of_ble_eq_true rfl) tA_8 (Nat.le_of_ble_eq_true rfl) (Nat.le_of_ble_eq_true rfl) (Nat.le_refl _) (Nat.le_refl _) (s_X5_set hc (fun hn => absurd hsv hn) (fun _ w2 hw2 ew M1 R1 c1 f1 => (wp_af ?_)))
    obtain rfl := (nI_eq (by omega) (by omega)).mp ew
    refine wp_aload_n dL_law_895 rfl ?_
    refine wp_iload dL_law_896 rfl ?_
    refine wp_iadn (i := w) rfl tA_235 (Nat.le_of_ble_eq_true rfl) (by rw [lA_235]; omega) (Nat.le_of_ble_eq_true rfl) dL_law_898 ((congrFun (f1 235 (by omega)).1 w).trans (hl.q (by omega))) ?_
    refine wp_icmp_eq (tgt := 904) dL_law_899 (by decide) (fun h899 => ?_) (fun h899 => absurd rfl h899)
    refine wp_aload_n dL_law_904 rfl ?_
    refine wp_iload dL_law_905 rfl ?_
    refine wp_iload dL_law_907 rfl ?_
    refine wp_iast (i := w) rfl tA_235 (Nat.le_of_ble_eq_true rfl) (by rw [lA_235]; omega) (Nat.le_of_ble_eq_true rfl) dL_law_909 ?_
    have l1 : LT M1 234 238 (nP sg) sg := hl.fr (fun j _ => by rw [(f1 235 (by omega)).1]) (f1 236 (by omega)).1 (f1 237 (by omega)).1 (f1 238 (by omega)).1 (f1 239 (by omega)).1
    have en : nP (up sg w (nI v)) = nP sg := nP_of (up_n _ _ (by omega))
    refine kk _ _ _ _ _ _ _ _ _ _ (LawI.of (c1.out fun a ha => u2_n _ _ _ (by omega)) (by rw [en]; exact l1.uset hS hw _) ?_ ?_ ((up_n _ _ (by omega)).trans hs3) (by omega))
    · rw [en, u2_s, up_n _ _ (by omega), (f1 235 (by omega)).1]
      exact hq4
    · rw [u2_n _ _ _ (by omega), u2_n _ _ _ (by omega), (f1 240 (by omega)).1, (f1 241 (by omega)).1]
      exact hG.cong (up_n _ _ (by omega)) fun j _ _ => up_n _ _ (by omega)
  refine wp_drop [some (.ref 4), some (.ref 8), some (.ref 235), some (.ref 236), some (.ref 237), some (.ref 238), some (.ref 239), some (.ref 240), some (.ref 241), some (.ref 242), some (.ref 243), some (.ref 244), some (.ref 245), some (.ref 246), some (.int (nI t)), some (.int x), some (.int y), some (.int (nI kd)), some (.int (nI c)), none, none, none, none, none, none, none, none] (by simp [leL]) ?_
  refine wp_iload dL_law_830 rfl ?_
  refine wp_iconst (v := 3) dL_law_832 (by decide) ?_
  refine wp_cS2 (z := mL_low) (n' := 247) kL_47 dL_law_833 (Nat.le_of_ble_eq_true rfl) (Nat.le_of_ble_eq_true rfl) (Nat.le_of_ble_eq_true rfl) (Nat.le_refl _) (Nat.le_refl _) (s_lowX (n := 3) (by omega) (by decide) (fun w h_w => (wp_af ?_)))
  refine wp_istore (L' := [some (.ref 4), some (.ref 8), some (.ref 235), some (.ref 236), some (.ref 237), some (.ref 238), some (.ref 239), some (.ref 240), some (.ref 241), some (.ref 242), some (.ref 243), some (.ref 244), some (.ref 245), some (.ref 246), some (.int (nI t)), some (.int x), some (.int y), some (.int (nI kd)), some (.int (nI c)), some (.int (nI w)), none, none, none, none, none, none, none]) dL_law_836 (by decide) rfl ?_
  refine wp_iload dL_law_838 rfl ?_
  refine wp_ifN_ne (a := w) (tgt := 855) dL_law_840 (by decide) rfl (by omega) (fun h840 => ?_) (fun h840 => ?_)
  · refine wp_iload dL_law_855 rfl ?_
    refine wp_iconst (v := 1) dL_law_857 (by decide) ?_
    refine wp_icN_ne (a := w) (b := 1) (tgt := 873) dL_law_858 (by decide) rfl rfl (by omega) (by omega) (fun h858 => ?_) (fun h858 => ?_)
    · refine wp_iconst (v := 1) dL_law_873 (by decide) ?_
      refine wp_iload dL_law_874 rfl ?_
      refine wp_iconst (v := 2) dL_law_876 (by decide) ?_
      refine wp_ishr dL_law_877 ?_
      refine wp_sipush (v := 900) dL_law_878 (by decide) ?_
      refine wp_cS2 (z := mL_low) (n' := 247) kL_47 dL_law_881 (Nat.le_of_ble_eq_true rfl) (Nat.le_of_ble_eq_true rfl) (Nat.le_of_ble_eq_true rfl) (Nat.le_refl _) (Nat.le_refl _) (s_lowX (n := 900) (by omega) (by decide) (fun g h_g => (wp_af ?_)))
      refine wp_iadd dL_law_884 ?_
      refine wp_top (z := nI (1 + g)) ((ix_add rfl rfl)) ?_
      exact s885 _ (1 + g) _ _ _ _ _ _ _ (by omega) (by
        first
          | exact Or.inl ⟨by rw [h840]; rfl, nI_pos' (by omega), (nI_leI (b := 100) (by omega) (by omega)).mpr (by omega)⟩
          | exact Or.inr (Or.inl ⟨by rw [h858]; rfl, nI_pos' (by omega), (nI_leI (b := 50) (by omega) (by omega)).mpr (by omega)⟩)
          | exact Or.inr (Or.inr ⟨by rw [show w = 2 by omega]; rfl, (nI_leI (a := 1) (by omega) (by omega)).mpr (by omega), (nI_leI (b := 9999) (by omega) (by omega)).mpr (by omega)⟩))
    · refine wp_iload dL_law_861 rfl ?_
      refine wp_iconst (v := 2) dL_law_863 (by decide) ?_
      refine wp_ishr dL_law_864 ?_
      refine wp_bipush (v := 51) dL_law_865 (by decide) ?_
      refine wp_cS2 (z := mL_low) (n' := 247) kL_47 dL_law_867 (Nat.le_of_ble_eq_true rfl) (Nat.le_of_ble_eq_true rfl) (Nat.le_of_ble_eq_true rfl) (Nat.le_refl _) (Nat.le_refl _) (s_lowX (n := 51) (by omega) (by decide) (fun g h_g => (wp_af ?_)))
      refine wp_goto (tgt := 885) dL_law_870 (by decide) ?_
      exact s885 _ g _ _ _ _ _ _ _ (by omega) (by
        first
          | exact Or.inl ⟨by rw [h840]; rfl, nI_pos' (by omega), (nI_leI (b := 100) (by omega) (by omega)).mpr (by omega)⟩
          | exact Or.inr (Or.inl ⟨by rw [h858]; rfl, nI_pos' (by omega), (nI_leI (b := 50) (by omega) (by omega)).mpr (by omega)⟩)
          | exact Or.inr (Or.inr ⟨by rw [show w = 2 by omega]; rfl, (nI_leI (a := 1) (by omega) (by omega)).mpr (by omega), (nI_leI (b := 9999) (by omega) (by omega)).mpr (by omega)⟩))
  · refine wp_iload dL_law_843 rfl ?_
    refine wp_iconst (v := 2) dL_law_845 (by decide) ?_
    refine wp_ishr dL_law_846 ?_
    refine wp_bipush (v := 101) dL_law_847 (by decide) ?_
    refine wp_cS2 (z := mL_low) (n' := 247) kL_47 dL_law_849 (Nat.le_of_ble_eq_true rfl) (Nat.le_of_ble_eq_true rfl) (Nat.le_of_ble_eq_true rfl) (Nat.le_refl _) (Nat.le_refl _) (s_lowX (n := 101) (by omega) (by decide) (fun g h_g => (wp_af ?_)))
    refine wp_goto (tgt := 885) dL_law_852 (by decide) ?_
    exact s885 _ g _ _ _ _ _ _ _ (by omega) (by
      first
        | exact Or.inl ⟨by rw [h840]; rfl, nI_pos' (by omega), (nI_leI (b := 100) (by omega) (by omega)).mpr (by omega)⟩
        | exact Or.inr (Or.inl ⟨by rw [h858]; rfl, nI_pos' (by omega), (nI_leI (b := 50) (by omega) (by omega)).mpr (by omega)⟩)
        | exact Or.inr (Or.inr ⟨by rw [show w = 2 by omega]; rfl, (nI_leI (a := 1) (by omega) (by omega)).mpr (by omega), (nI_leI (b := 9999) (by omega) (by omega)).mpr (by omega)⟩))

set_option maxRecDepth 100000 in
set_option maxHeartbeats 4000000 in
theorem lk_level {γ : Gm} {l : Launch} {M : Mm} {R : Rm} {K : KT} {x y : Int32} {sg tx F : Nat → Int32} {rc pl t kd c s : Nat} {hs S : Nat → Nat → Int32} {t19 t20 t21 t22 t23 t24 t25 t26 : Option Value} (hc : IC M R sg rc hs F S tx pl) (hl : LT M 234 238 (nP sg) sg) (hq4 : M 235 4 = nI (nP sg)) (hG : GL (M 240) (M 241) sg s) (hs3 : sg 3 = nI s) (hst : s ≤ 99 * t) (ht : t < 24) (kk : ∀ M1 R1 (t19 t20 t21 t22 t23 t24 t25 t26 : Option Value), LawI M1 R1 (t + 1) → WP γ l mL_law 9 8 247 910 [some (.ref 4), some (.ref 8), some (.ref 235), some (.ref 236), some (.ref 237), some (.ref 238), some (.ref 239), some (.ref 240), some (.ref 241), some (.ref 242), some (.ref 243), some (.ref 244), some (.ref 245), some (.ref 246), some (.int (nI t)), some (.int x), some (.int y), some (.int (nI kd)), some (.int (nI c)), t19, t20, t21, t22, t23, t24, t25, t26] [] 247 M1 R1 K)  : WP γ l mL_law 9 8 247 597 [some (.ref 4), some (.ref 8), some (.ref 235), some (.ref 236), some (.ref 237), some (.ref 238), some (.ref 239), some (.ref 240), some (.ref 241), some (.ref 242), some (.ref 243), some (.ref 244), some (.ref 245), some (.ref 246), some (.int (nI t)), some (.int x), some (.int y), some (.int (nI kd)), some (.int (nI c)), t19, t20, t21, t22, t23, t24, t25, t26] [] 247 M R K := by
  have h6 := hc.ok.p6
  have hS : SA 234 238 := Or.inl ⟨rfl, rfl⟩
  refine wp_drop [some (.ref 4), some (.ref 8), some (.ref 235), some (.ref 236), some (.ref 237), some (.ref 238), some (.ref 239), some (.ref 240), some (.ref 241), some (.ref 242), some (.ref 243), some (.ref 244), some (.ref 245), some (.ref 246), some (.int (nI t)), some (.int x), some (.int y), some (.int (nI kd)), some (.int (nI c)), none, none, none, none, none, none, none, none] (by simp [leL]) ?_
  refine wp_iload dL_law_597 rfl ?_
  refine wp_bipush (v := 40) dL_law_599 (by decide) ?_
  refine wp_cS2 (z := mL_low) (n' := 247) kL_47 dL_law_601 (Nat.le_of_ble_eq_true rfl) (Nat.le_of_ble_eq_true rfl) (Nat.le_of_ble_eq_true rfl) (Nat.le_refl _) (Nat.le_refl _) (s_lowX (n := 40) (by omega) (by decide) (fun e h_e => (wp_af ?_)))
  refine wp_istore (L' := [some (.ref 4), some (.ref 8), some (.ref 235), some (.ref 236), some (.ref 237), some (.ref 238), some (.ref 239), some (.ref 240), some (.ref 241), some (.ref 242), some (.ref 243), some (.ref 244), some (.ref 245), some (.ref 246), some (.int (nI t)), some (.int x), some (.int y), some (.int (nI kd)), some (.int (nI c)), some (.int (nI e)), none, none, none, none, none, none, none]) dL_law_604 (by decide) rfl ?_
  refine wp_iload dL_law_606 rfl ?_
  refine wp_iconst (v := 4) dL_law_608 (by decide) ?_
  refine wp_ishr dL_law_609 ?_
  refine wp_sipush (v := 1201) dL_law_610 (by decide) ?_
  refine wp_cS2 (z := mL_low) (n' := 247) kL_47 dL_law_613 (Nat.le_of_ble_eq_true rfl) (Nat.le_of_ble_eq_true rfl) (Nat.le_of_ble_eq_true rfl) (Nat.le_refl _) (Nat.le_refl _) (s_lowX (n := 1201) (by omega) (by decide) (fun g h_g => (wp_af ?_)))
  refine wp_sipush (v := 600) dL_law_616 (by decide) ?_
  refine wp_isub dL_law_619 ?_
  refine wp_istore (L' := [some (.ref 4), some (.ref 8), some (.ref 235), some (.ref 236), some (.ref 237), some (.ref 238), some (.ref 239), some (.ref 240), some (.ref 241), some (.ref 242), some (.ref 243), some (.ref 244), some (.ref 245), some (.ref 246), some (.int (nI t)), some (.int x), some (.int y), some (.int (nI kd)), some (.int (nI c)), some (.int (nI e)), some (.int _), none, none, none, none, none, none]) dL_law_620 (by decide) rfl ?_
  have he39 : 0 ≤ nI e ∧ nI e ≤ 39 := ⟨nI_pos' (by omega), (nI_leI (b := 39) (by omega) (by omega)).mpr (by omega)⟩
  have hv : -9999 ≤ nI g - 600 ∧ nI g - 600 ≤ 9999 := by
    have h := less_in (h := g) (a := 1201) (b := 600) (d := 600) h_g (by omega) (by omega) (by omega) (by omega)
    exact ⟨i32_tr (by decide) h.1, i32_tr h.2 (by decide)⟩
  refine wp_aload_n dL_law_622 rfl ?_
  refine wp_iload dL_law_623 rfl ?_
  refine wp_iload dL_law_625 rfl ?_
  refine wp_cV2 (z := mX5_level) (n' := 247) kL_80 dL_law_627 (Nat.le_of_ble_eq_true rfl) (Nat.le_of_ble_eq_true rfl) tA_8 (Nat.le_of_ble_eq_true rfl) (Nat.le_of_ble_eq_true rfl) (Nat.le_refl _) (Nat.le_refl _) (s_X5_level hc (fun hn => absurd he39 hn) (fun _ hn => absurd hv hn) (fun _ e2 he2 ee M1 R1 c1 f1 => (wp_af ?_)))
  obtain rfl := (nI_eq (by omega) (by omega)).mp ee
  refine wp_aload_n dL_law_630 rfl ?_
  refine wp_iload dL_law_631 rfl ?_
  refine wp_iadn (i := e) rfl tA_236 (Nat.le_of_ble_eq_true rfl) (by rw [lA_236]; omega) (Nat.le_of_ble_eq_true rfl) dL_law_633 ((congrFun (f1 236 (by omega)).1 e).trans (hl.l (by omega))) ?_
  refine wp_sipush (v := 10000) dL_law_634 (by decide) ?_
  refine wp_iadd dL_law_637 ?_
  refine wp_icmp_eq (tgt := 643) dL_law_638 (by decide) (fun h638 => ?_) (fun h638 => absurd rfl h638)
  refine wp_aload_n dL_law_643 rfl ?_
  refine wp_iload dL_law_644 rfl ?_
  refine wp_iload dL_law_646 rfl ?_
  refine wp_iast (i := e) rfl tA_236 (Nat.le_of_ble_eq_true rfl) (by rw [lA_236]; omega) (Nat.le_of_ble_eq_true rfl) dL_law_648 ?_
  refine wp_goto (tgt := 910) dL_law_649 (by decide) ?_
  have l1 : LT M1 234 238 (nP sg) sg := hl.fr (fun j _ => by rw [(f1 235 (by omega)).1]) (f1 236 (by omega)).1 (f1 237 (by omega)).1 (f1 238 (by omega)).1 (f1 239 (by omega)).1
  have en : nP (up sg (6 + e) (nI g - 600)) = nP sg := nP_of (up_n _ _ (by omega))
  refine kk _ _ _ _ _ _ _ _ _ _ (LawI.of (c1.out fun a ha => u2_n _ _ _ (by omega)) (by rw [en]; exact l1.ulev hS (by omega) _) ?_ ?_ ((up_n _ _ (by omega)).trans hs3) (by omega))
  · rw [en, u2_n _ _ _ (by omega), (f1 235 (by omega)).1]
    exact hq4
  · rw [u2_n _ _ _ (by omega), u2_n _ _ _ (by omega), (f1 240 (by omega)).1, (f1 241 (by omega)).1]
    exact hG.cong (up_n _ _ (by omega)) fun j _ _ => up_n _ _ (by omega)

set_option maxRecDepth 100000 in
set_option maxHeartbeats 4000000 in
theorem lk_gauge {γ : Gm} {l : Launch} {M : Mm} {R : Rm} {K : KT} {x y : Int32} {sg tx F : Nat → Int32} {rc pl t kd c s : Nat} {hs S : Nat → Nat → Int32} {t19 t20 t21 t22 t23 t24 t25 t26 : Option Value} (hc : IC M R sg rc hs F S tx pl) (hl : LT M 234 238 (nP sg) sg) (hq4 : M 235 4 = nI (nP sg)) (hG : GL (M 240) (M 241) sg s) (hs3 : sg 3 = nI s) (hst : s ≤ 99 * t) (ht : t < 24) (h5 : sg 5 = 0) (g1 : M 240 1 = 0) (kk : ∀ M1 R1 (t19 t20 t21 t22 t23 t24 t25 t26 : Option Value), LawI M1 R1 (t + 1) → WP γ l mL_law 9 8 247 910 [some (.ref 4), some (.ref 8), some (.ref 235), some (.ref 236), some (.ref 237), some (.ref 238), some (.ref 239), some (.ref 240), some (.ref 241), some (.ref 242), some (.ref 243), some (.ref 244), some (.ref 245), some (.ref 246), some (.int (nI t)), some (.int x), some (.int y), some (.int (nI kd)), some (.int (nI c)), t19, t20, t21, t22, t23, t24, t25, t26] [] 247 M1 R1 K)  : WP γ l mL_law 9 8 247 666 [some (.ref 4), some (.ref 8), some (.ref 235), some (.ref 236), some (.ref 237), some (.ref 238), some (.ref 239), some (.ref 240), some (.ref 241), some (.ref 242), some (.ref 243), some (.ref 244), some (.ref 245), some (.ref 246), some (.int (nI t)), some (.int x), some (.int y), some (.int (nI kd)), some (.int (nI c)), t19, t20, t21, t22, t23, t24, t25, t26] [] 247 M R K := by
  have h6 := hc.ok.p6
  have hng := nG_0 h5
  refine wp_drop [some (.ref 4), some (.ref 8), some (.ref 235), some (.ref 236), some (.ref 237), some (.ref 238), some (.ref 239), some (.ref 240), some (.ref 241), some (.ref 242), some (.ref 243), some (.ref 244), some (.ref 245), some (.ref 246), some (.int (nI t)), some (.int x), some (.int y), some (.int (nI kd)), some (.int (nI c)), none, none, none, none, none, none, none, none] (by simp [leL]) ?_
  refine wp_aload dL_law_666 rfl ?_
  refine wp_iconst (v := 0) dL_law_668 (by decide) ?_
  refine wp_iload dL_law_669 rfl ?_
  refine wp_bipush (v := 40) dL_law_671 (by decide) ?_
  refine wp_cS2 (z := mL_low) (n' := 247) kL_47 dL_law_673 (Nat.le_of_ble_eq_true rfl) (Nat.le_of_ble_eq_true rfl) (Nat.le_of_ble_eq_true rfl) (Nat.le_refl _) (Nat.le_refl _) (s_lowX (n := 40) (by omega) (by decide) (fun e h_e => (wp_af ?_)))
  refine wp_iast (i := 0) rfl tA_240 (Nat.le_of_ble_eq_true rfl) (by rw [lA_240]; omega) (Nat.le_of_ble_eq_true rfl) dL_law_676 ?_
  have hwy : whyG (nG sg) (nI e) = 0 := by rw [whyG, if_pos ⟨nI_pos' (by omega), (nI_leI (b := 39) (by omega) (by omega)).mpr (by omega)⟩, hng, if_neg (by omega)]
  refine wp_aload_n dL_law_677 rfl ?_
  refine wp_aload dL_law_678 rfl ?_
  refine wp_iconst (v := 0) dL_law_680 (by decide) ?_
  refine wp_iadn (i := 0) (v := nI e) rfl tA_240 (Nat.le_of_ble_eq_true rfl) (by rw [lA_240]; omega) (Nat.le_of_ble_eq_true rfl) dL_law_681 ((congrFun (u2_s _ _ _ _) 0).trans (up_s _ _ _)) ?_
  refine wp_cV1 (z := mX5_gauge) (n' := 247) kL_83 dL_law_682 (Nat.le_of_ble_eq_true rfl) (Nat.le_of_ble_eq_true rfl) tA_8 (Nat.le_of_ble_eq_true rfl) (Nat.le_of_ble_eq_true rfl) (Nat.le_refl _) (Nat.le_refl _) (s_X5_gauge (hc.out fun a ha => u2_n _ _ _ (by omega)) (fun hn => absurd hn (by rw [hwy]; decide)) (fun _ M1 R1 c1 f1 => (wp_af ?_)))
  refine wp_top (z := nI 0) (by rw [hng]) ?_
  rw [hng] at c1
  refine wp_ifN_eq (a := 0) (tgt := 910) dL_law_685 (by decide) rfl (by omega) (fun _ => ?_) (fun h => absurd h (by decide))
  have lo : ∀ j, j ≠ 5 → j < 122 → cgF sg 0 (nI e) j = sg j := fun j h1 h2 => by rw [cgF, up_n _ _ h1, cgN, if_neg (by omega)]
  have en : nP (cgF sg 0 (nI e)) = nP sg := nP_of (lo 4 (by omega) (by omega))
  have l1 : LT M1 234 238 (nP sg) (cgF sg 0 (nI e)) := LT.cong (hl.fr (fun j _ => by rw [(f1 235 (by omega)).1, u2_n _ _ _ (by omega)]) ((f1 236 (by omega)).1.trans (u2_n _ _ _ (by omega))) ((f1 237 (by omega)).1.trans (u2_n _ _ _ (by omega))) ((f1 238 (by omega)).1.trans (u2_n _ _ _ (by omega))) ((f1 239 (by omega)).1.trans (u2_n _ _ _ (by omega)))) fun j h1 h2 h3 => lo j h3 (by omega)
  refine kk _ _ _ _ _ _ _ _ _ _ (LawI.of c1 (by rw [en]; exact l1) ?_ ?_ ((lo 3 (by omega) (by omega)).trans hs3) (by omega))
  · rw [en, (f1 235 (by omega)).1, u2_n _ _ _ (by omega)]
    exact hq4
  · refine Or.inr ⟨e, 0, by omega, by omega, by rw [cgF, up_s]; rfl, by rw [cgF, up_n _ _ (by omega), cgN, if_pos (by omega), if_pos rfl], by rw [cgF, up_n _ _ (by omega), cgN, if_pos (by omega), if_neg (by omega)]; rfl, ?_, ?_, fun k hk => absurd hk (by omega)⟩
    · rw [(f1 240 (by omega)).1, u2_s, up_s]
    · rw [(f1 240 (by omega)).1, u2_s, up_n _ _ (by omega)]
      exact g1

set_option maxRecDepth 100000 in
set_option maxHeartbeats 4000000 in
theorem lk_again {γ : Gm} {l : Launch} {M : Mm} {R : Rm} {K : KT} {x y : Int32} {sg tx F : Nat → Int32} {rc pl t kd c s : Nat} {hs S : Nat → Nat → Int32} {t19 t20 t21 t22 t23 t24 t25 t26 : Option Value} (hc : IC M R sg rc hs F S tx pl) (hl : LT M 234 238 (nP sg) sg) (hq4 : M 235 4 = nI (nP sg)) (hG : GL (M 240) (M 241) sg s) (hs3 : sg 3 = nI s) (hst : s ≤ 99 * t) (ht : t < 24) (hc36 : c < 36) (kk : ∀ M1 R1 (t19 t20 t21 t22 t23 t24 t25 t26 : Option Value), LawI M1 R1 (t + 1) → WP γ l mL_law 9 8 247 910 [some (.ref 4), some (.ref 8), some (.ref 235), some (.ref 236), some (.ref 237), some (.ref 238), some (.ref 239), some (.ref 240), some (.ref 241), some (.ref 242), some (.ref 243), some (.ref 244), some (.ref 245), some (.ref 246), some (.int (nI t)), some (.int x), some (.int y), some (.int (nI kd)), some (.int (nI c)), t19, t20, t21, t22, t23, t24, t25, t26] [] 247 M1 R1 K)  : WP γ l mL_law 9 8 247 697 [some (.ref 4), some (.ref 8), some (.ref 235), some (.ref 236), some (.ref 237), some (.ref 238), some (.ref 239), some (.ref 240), some (.ref 241), some (.ref 242), some (.ref 243), some (.ref 244), some (.ref 245), some (.ref 246), some (.int (nI t)), some (.int x), some (.int y), some (.int (nI kd)), some (.int (nI c)), t19, t20, t21, t22, t23, t24, t25, t26] [] 247 M R K := by
  have h6 := hc.ok.p6
  have hS : SA 234 238 := Or.inl ⟨rfl, rfl⟩
  rcases hl.pl.at hc36 with hz | ⟨k, hk, hp⟩
  · have rn := rk_no hl.pl (c := c) (by omega) (fun _ => hz)
    refine wp_drop [some (.ref 4), some (.ref 8), some (.ref 235), some (.ref 236), some (.ref 237), some (.ref 238), some (.ref 239), some (.ref 240), some (.ref 241), some (.ref 242), some (.ref 243), some (.ref 244), some (.ref 245), some (.ref 246), some (.int (nI t)), some (.int x), some (.int y), some (.int (nI kd)), some (.int (nI c)), none, none, none, none, none, none, none, none] (by simp [leL]) ?_
    refine wp_aload dL_law_697 rfl ?_
    refine wp_iload dL_law_699 rfl ?_
    refine wp_iadn (i := c) (v := nI 0) rfl tA_238 (Nat.le_of_ble_eq_true rfl) (by rw [lA_238]; omega) (Nat.le_of_ble_eq_true rfl) dL_law_701 (hz) ?_
    refine wp_ifN_le (a := 0) (tgt := 709) dL_law_702 (by decide) rfl (by omega) (fun _ => ?_) (fun h => absurd h (by decide))
    refine wp_iconst (v := 0) dL_law_709 (by decide) ?_
    refine wp_istore (L' := [some (.ref 4), some (.ref 8), some (.ref 235), some (.ref 236), some (.ref 237), some (.ref 238), some (.ref 239), some (.ref 240), some (.ref 241), some (.ref 242), some (.ref 243), some (.ref 244), some (.ref 245), some (.ref 246), some (.int (nI t)), some (.int x), some (.int y), some (.int (nI kd)), some (.int (nI c)), some (.int _), none, none, none, none, none, none, none]) dL_law_710 (by decide) rfl ?_
    refine wp_iload dL_law_712 rfl ?_
    refine wp_iconst (v := 2) dL_law_714 (by decide) ?_
    refine wp_cS2 (z := mL_low) (n' := 247) kL_47 dL_law_715 (Nat.le_of_ble_eq_true rfl) (Nat.le_of_ble_eq_true rfl) (Nat.le_of_ble_eq_true rfl) (Nat.le_refl _) (Nat.le_refl _) (s_lowX (n := 2) (by omega) (by decide) (fun e h_e => (wp_af ?_)))
    refine wp_ifN_ne (a := e) (tgt := 780) dL_law_718 (by decide) rfl (by omega) (fun h718 => ?_) (fun h718 => ?_)
    · refine wp_aload_n dL_law_780 rfl ?_
      refine wp_iload dL_law_781 rfl ?_
      refine wp_cV1 (z := mX5_lift) (n' := 247) kL_89 dL_law_783 (Nat.le_of_ble_eq_true rfl) (Nat.le_of_ble_eq_true rfl) tA_8 (Nat.le_of_ble_eq_true rfl) (Nat.le_of_ble_eq_true rfl) (Nat.le_refl _) (Nat.le_refl _) (s_X5_lift hc (fun _ M1 c1 f1 => (wp_af ?_)) (fun q _ e => absurd (e.symm.trans rn) (nI_m6 (by omega))))
      refine wp_iload dL_law_786 rfl ?_
      refine wp_ifN_eq (a := 0) (tgt := 799) dL_law_788 (by decide) rfl (by omega) (fun _ => ?_) (fun h => absurd h (by decide))
      refine wp_iconst (v := (-1)) dL_law_799 (by decide) ?_
      refine wp_icmp_eq (tgt := 805) dL_law_800 (by decide) (fun h800 => ?_) (fun h800 => absurd rfl h800)
      refine wp_aload dL_law_805 rfl ?_
      refine wp_iload dL_law_807 rfl ?_
      refine wp_iconst (v := 0) dL_law_809 (by decide) ?_
      refine wp_iast (i := c) rfl tA_238 (Nat.le_of_ble_eq_true rfl) (by rw [lA_238]; omega) (Nat.le_of_ble_eq_true rfl) dL_law_810 ?_
      refine wp_aload_n dL_law_811 rfl ?_
      refine wp_iconst (v := 4) dL_law_812 (by decide) ?_
      refine wp_dup2 dL_law_813 rfl rfl ?_
      refine wp_iadn (i := 4) (v := nI (nP sg)) rfl tA_235 (Nat.le_of_ble_eq_true rfl) (by rw [lA_235]; omega) (Nat.le_of_ble_eq_true rfl) dL_law_814 ((congrFun (u2_n _ _ _ (by omega)) 4).trans ((congrFun (f1 235 (by omega)).1 4).trans hq4)) ?_
      refine wp_iload dL_law_815 rfl ?_
      refine wp_ifN_eq (a := 0) (tgt := 824) dL_law_817 (by decide) rfl (by omega) (fun _ => ?_) (fun h => absurd h (by decide))
      refine wp_iconst (v := 0) dL_law_824 (by decide) ?_
      refine wp_isub dL_law_825 ?_
      refine wp_iast (i := 4) rfl tA_235 (Nat.le_of_ble_eq_true rfl) (by rw [lA_235]; omega) (Nat.le_of_ble_eq_true rfl) dL_law_826 ?_
      refine wp_goto (tgt := 910) dL_law_827 (by decide) ?_
      first
        | exact kk _ _ _ _ _ _ _ _ _ _ (LawI.of c1 (hl.fr (fun j _ => by rw [(f1 235 (by omega)).1]) (f1 236 (by omega)).1 (f1 237 (by omega)).1 (f1 238 (by omega)).1 (f1 239 (by omega)).1) (by rw [(f1 235 (by omega)).1]; exact hq4) (by rw [(f1 240 (by omega)).1, (f1 241 (by omega)).1]; exact hG) hs3 (by omega))
        | (have l1 : LT M1 234 238 (nP sg) sg := hl.fr (fun j _ => by rw [(f1 235 (by omega)).1]) (f1 236 (by omega)).1 (f1 237 (by omega)).1 (f1 238 (by omega)).1 (f1 239 (by omega)).1
           have e1 : u2 M1 238 c 0 = M1 := by rw [u2_eq, show (0 : Int32) = M1 238 c by rw [(f1 238 (by omega)).1]; exact hz.symm, up_eta, up_eta]
           rw [e1]
           refine kk _ _ _ _ _ _ _ _ _ _ (LawI.of (c1.out fun a ha => u2_n _ _ _ (by omega)) (l1.fr (fun j _ => by rw [u2_s, up_n _ _ (by omega)]) (u2_n _ _ _ (by omega)) (u2_n _ _ _ (by omega)) (u2_n _ _ _ (by omega)) (u2_n _ _ _ (by omega))) ?_ ?_ hs3 (by omega))
           · rw [u2_s, up_s, Int32.sub_zero]
           · rw [u2_n _ _ _ (by omega), u2_n _ _ _ (by omega), (f1 240 (by omega)).1, (f1 241 (by omega)).1]
             exact hG)
    · refine wp_aload_n dL_law_721 rfl ?_
      refine wp_iload dL_law_722 rfl ?_
      refine wp_cV1 (z := mX5_again) (n' := 247) kL_86 dL_law_724 (Nat.le_of_ble_eq_true rfl) (Nat.le_of_ble_eq_true rfl) tA_8 (Nat.le_of_ble_eq_true rfl) (Nat.le_of_ble_eq_true rfl) (Nat.le_refl _) (Nat.le_refl _) (s_X5_again hc (fun _ M1 c1 f1 => (wp_af ?_)) (fun q _ e => absurd (e.symm.trans rn) (nI_m6 (by omega))))
      refine wp_iload dL_law_727 rfl ?_
      refine wp_ifN_eq (a := 0) (tgt := 751) dL_law_729 (by decide) rfl (by omega) (fun _ => ?_) (fun h => absurd h (by decide))
      refine wp_iconst (v := (-1)) dL_law_751 (by decide) ?_
      refine wp_icmp_eq (tgt := 757) dL_law_752 (by decide) (fun h752 => ?_) (fun h752 => absurd rfl h752)
      refine wp_iload dL_law_757 rfl ?_
      refine wp_ifN_eq (a := 0) (tgt := 827) dL_law_759 (by decide) rfl (by omega) (fun _ => ?_) (fun h => absurd h (by decide))
      refine wp_goto (tgt := 910) dL_law_827 (by decide) ?_
      first
        | exact kk _ _ _ _ _ _ _ _ _ _ (LawI.of c1 (hl.fr (fun j _ => by rw [(f1 235 (by omega)).1]) (f1 236 (by omega)).1 (f1 237 (by omega)).1 (f1 238 (by omega)).1 (f1 239 (by omega)).1) (by rw [(f1 235 (by omega)).1]; exact hq4) (by rw [(f1 240 (by omega)).1, (f1 241 (by omega)).1]; exact hG) hs3 (by omega))
        | (have l1 : LT M1 234 238 (nP sg) sg := hl.fr (fun j _ => by rw [(f1 235 (by omega)).1]) (f1 236 (by omega)).1 (f1 237 (by omega)).1 (f1 238 (by omega)).1 (f1 239 (by omega)).1
           have e1 : u2 M1 238 c 0 = M1 := by rw [u2_eq, show (0 : Int32) = M1 238 c by rw [(f1 238 (by omega)).1]; exact hz.symm, up_eta, up_eta]
           rw [e1]
           refine kk _ _ _ _ _ _ _ _ _ _ (LawI.of (c1.out fun a ha => u2_n _ _ _ (by omega)) (l1.fr (fun j _ => by rw [u2_s, up_n _ _ (by omega)]) (u2_n _ _ _ (by omega)) (u2_n _ _ _ (by omega)) (u2_n _ _ _ (by omega)) (u2_n _ _ _ (by omega))) ?_ ?_ hs3 (by omega))
           · rw [u2_s, up_s, Int32.sub_zero]
           · rw [u2_n _ _ _ (by omega), u2_n _ _ _ (by omega), (f1 240 (by omega)).1, (f1 241 (by omega)).1]
             exact hG)
  · have n0 : ¬ M 238 c = 0 := by rw [hp]; exact nI_s0 (by omega)
    have rn := rk_at hl.pl h6 hc36 n0
    have hlt := hl.pl.lt hc36 n0
    have f4 : M 239 (5 * k + 4) = sg (86 + 6 * cnt (M 238) c + 5) := ((hl.pl.2.2.2 c k hc36 hk hp).2 4 (by omega)).symm
    refine wp_drop [some (.ref 4), some (.ref 8), some (.ref 235), some (.ref 236), some (.ref 237), some (.ref 238), some (.ref 239), some (.ref 240), some (.ref 241), some (.ref 242), some (.ref 243), some (.ref 244), some (.ref 245), some (.ref 246), some (.int (nI t)), some (.int x), some (.int y), some (.int (nI kd)), some (.int (nI c)), none, none, none, none, none, none, none, none] (by simp [leL]) ?_
    refine wp_aload dL_law_697 rfl ?_
    refine wp_iload dL_law_699 rfl ?_
    refine wp_iadn (i := c) (v := nI (k + 1)) rfl tA_238 (Nat.le_of_ble_eq_true rfl) (by rw [lA_238]; omega) (Nat.le_of_ble_eq_true rfl) dL_law_701 (hp) ?_
    refine wp_ifN_le (a := (k + 1)) (tgt := 709) dL_law_702 (by decide) rfl (by omega) (fun h702 => absurd h702 (by omega)) (fun h702 => ?_)
    refine wp_iconst (v := 1) dL_law_705 (by decide) ?_
    refine wp_goto (tgt := 710) dL_law_706 (by decide) ?_
    refine wp_istore (L' := [some (.ref 4), some (.ref 8), some (.ref 235), some (.ref 236), some (.ref 237), some (.ref 238), some (.ref 239), some (.ref 240), some (.ref 241), some (.ref 242), some (.ref 243), some (.ref 244), some (.ref 245), some (.ref 246), some (.int (nI t)), some (.int x), some (.int y), some (.int (nI kd)), some (.int (nI c)), some (.int _), none, none, none, none, none, none, none]) dL_law_710 (by decide) rfl ?_
    refine wp_iload dL_law_712 rfl ?_
    refine wp_iconst (v := 2) dL_law_714 (by decide) ?_
    refine wp_cS2 (z := mL_low) (n' := 247) kL_47 dL_law_715 (Nat.le_of_ble_eq_true rfl) (Nat.le_of_ble_eq_true rfl) (Nat.le_of_ble_eq_true rfl) (Nat.le_refl _) (Nat.le_refl _) (s_lowX (n := 2) (by omega) (by decide) (fun e h_e => (wp_af ?_)))
    refine wp_ifN_ne (a := e) (tgt := 780) dL_law_718 (by decide) rfl (by omega) (fun h718 => ?_) (fun h718 => ?_)
    · refine wp_aload_n dL_law_780 rfl ?_
      refine wp_iload dL_law_781 rfl ?_
      refine wp_cV1 (z := mX5_lift) (n' := 247) kL_89 dL_law_783 (Nat.le_of_ble_eq_true rfl) (Nat.le_of_ble_eq_true rfl) tA_8 (Nat.le_of_ble_eq_true rfl) (Nat.le_of_ble_eq_true rfl) (Nat.le_refl _) (Nat.le_refl _) (s_X5_lift hc (fun hn => absurd (rn.symm.trans hn) (nI_m6 (by omega))) (fun q hq e M1 R1 c1 f1 => (wp_af ?_)))
      obtain rfl := (nI_eq (by omega) (by omega)).mp (rn.symm.trans e)
      refine wp_iload dL_law_786 rfl ?_
      refine wp_ifN_eq (a := 1) (tgt := 799) dL_law_788 (by decide) rfl (by omega) (fun h => absurd h (by decide)) (fun _ => ?_)
      refine wp_aload_n dL_law_791 rfl ?_
      refine wp_iconst (v := 4) dL_law_792 (by decide) ?_
      refine wp_iadn (i := 4) (v := nI (nP sg)) rfl tA_235 (Nat.le_of_ble_eq_true rfl) (by rw [lA_235]; omega) (Nat.le_of_ble_eq_true rfl) dL_law_793 ((congrFun (f1 235 (by omega)).1 4).trans hq4) ?_
      refine wp_iconst (v := 1) dL_law_794 (by decide) ?_
      refine wp_isub dL_law_795 ?_
      refine wp_goto (tgt := 800) dL_law_796 (by decide) ?_
      refine wp_icN_eq (a := (nP sg - 1)) (b := ((nP sg) - 1)) (tgt := 805) dL_law_800 (by decide) rfl (ix_sub (a := (nP sg)) (b := 1) rfl rfl (by omega)) (by omega) (by omega) (fun h800 => ?_) (fun h800 => absurd rfl h800)
      refine wp_aload dL_law_805 rfl ?_
      refine wp_iload dL_law_807 rfl ?_
      refine wp_iconst (v := 0) dL_law_809 (by decide) ?_
      refine wp_iast (i := c) rfl tA_238 (Nat.le_of_ble_eq_true rfl) (by rw [lA_238]; omega) (Nat.le_of_ble_eq_true rfl) dL_law_810 ?_
      refine wp_aload_n dL_law_811 rfl ?_
      refine wp_iconst (v := 4) dL_law_812 (by decide) ?_
      refine wp_dup2 dL_law_813 rfl rfl ?_
      refine wp_iadn (i := 4) (v := nI (nP sg)) rfl tA_235 (Nat.le_of_ble_eq_true rfl) (by rw [lA_235]; omega) (Nat.le_of_ble_eq_true rfl) dL_law_814 ((congrFun (u2_n _ _ _ (by omega)) 4).trans ((congrFun (f1 235 (by omega)).1 4).trans hq4)) ?_
      refine wp_iload dL_law_815 rfl ?_
      refine wp_ifN_eq (a := 1) (tgt := 824) dL_law_817 (by decide) rfl (by omega) (fun h => absurd h (by decide)) (fun _ => ?_)
      refine wp_iconst (v := 1) dL_law_820 (by decide) ?_
      refine wp_goto (tgt := 825) dL_law_821 (by decide) ?_
      refine wp_isub dL_law_825 ?_
      refine wp_iast (i := 4) rfl tA_235 (Nat.le_of_ble_eq_true rfl) (by rw [lA_235]; omega) (Nat.le_of_ble_eq_true rfl) dL_law_826 ?_
      refine wp_goto (tgt := 910) dL_law_827 (by decide) ?_
      have l1 : LT M1 234 238 (nP sg) sg := hl.fr (fun j _ => by rw [(f1 235 (by omega)).1]) (f1 236 (by omega)).1 (f1 237 (by omega)).1 (f1 238 (by omega)).1 (f1 239 (by omega)).1
      have ec : cnt (M1 238) c = cnt (M 238) c := by rw [(f1 238 (by omega)).1]
      first
        | (have en : nP (up sg (86 + 6 * cnt (M 238) c + 5) 1) = nP sg := nP_of (up_n _ _ (by omega))
           have lu := l1.urec hS hc36 hk (by rw [(f1 238 (by omega)).1]; exact hp) (i := 4) (by omega) 1
           rw [ec] at lu
           refine kk _ _ _ _ _ _ _ _ _ _ (LawI.of (c1.out fun a ha => u2_n _ _ _ (by omega)) (by rw [en]; exact lu) ?_ ?_ ((up_n _ _ (by omega)).trans hs3) (by omega))
           · rw [en, u2_n _ _ _ (by omega), (f1 235 (by omega)).1]
             exact hq4
           · rw [u2_n _ _ _ (by omega), u2_n _ _ _ (by omega), (f1 240 (by omega)).1, (f1 241 (by omega)).1]
             exact hG.cong (up_n _ _ (by omega)) fun j _ _ => up_n _ _ (by omega))
        | (have hno : ∀ j, j ≠ 4 → (j < 86 ∨ 122 ≤ j) → lfF sg (nP sg) (cnt (M 238) c) j = sg j := fun j h1 h2 => lfF_no h1 h2 h6
           have en : nP (lfF sg (nP sg) (cnt (M 238) c)) = nP sg - 1 := (hc.ok.1.klf hlt).nP
           have lp := l1.pl.lift hc36 (by rw [(f1 238 (by omega)).1]; exact n0)
           rw [ec] at lp
           refine kk _ _ _ _ _ _ _ _ _ _ (LawI.of (c1.out fun a ha => by rw [u2_n _ _ _ (by omega), u2_n _ _ _ (by omega)]) ?_ ?_ ?_ ((hno 3 (by omega) (by omega)).trans hs3) (by omega))
           · rw [en]
             refine ⟨fun i hi => ?_, fun e he => ?_, fun e he => ?_, ?_⟩
             · rw [u2_s, up_n _ _ (by omega), u2_n _ _ _ (by omega), hno _ (by omega) (by omega)]
               exact l1.1 i hi
             · rw [u2_n _ _ _ (by omega), u2_n _ _ _ (by omega), hno _ (by omega) (by omega)]
               exact l1.2.1 e he
             · rw [u2_n _ _ _ (by omega), u2_n _ _ _ (by omega), hno _ (by omega) (by omega)]
               exact l1.2.2.1 e he
             · rw [u2_n _ _ _ (by omega), u2_s, u2_n _ _ _ (by omega), u2_n _ _ _ (by omega)]
               exact lp
           · rw [en, u2_s, up_s]
             exact pk_sub (a := nP sg) (b := 1) (by omega)
           · rw [u2_n _ _ _ (by omega), u2_n _ _ _ (by omega), u2_n _ _ _ (by omega), u2_n _ _ _ (by omega), (f1 240 (by omega)).1, (f1 241 (by omega)).1]
             exact hG.cong (hno 5 (by omega) (by omega)) fun j _ _ => hno j (by omega) (by omega))
    · refine wp_aload_n dL_law_721 rfl ?_
      refine wp_iload dL_law_722 rfl ?_
      refine wp_cV1 (z := mX5_again) (n' := 247) kL_86 dL_law_724 (Nat.le_of_ble_eq_true rfl) (Nat.le_of_ble_eq_true rfl) tA_8 (Nat.le_of_ble_eq_true rfl) (Nat.le_of_ble_eq_true rfl) (Nat.le_refl _) (Nat.le_refl _) (s_X5_again hc (fun hn => absurd (rn.symm.trans hn) (nI_m6 (by omega))) (fun q hq e M1 R1 c1 f1 => (wp_af ?_)))
      obtain rfl := (nI_eq (by omega) (by omega)).mp (rn.symm.trans e)
      refine wp_iload dL_law_727 rfl ?_
      refine wp_ifN_eq (a := 1) (tgt := 751) dL_law_729 (by decide) rfl (by omega) (fun h => absurd h (by decide)) (fun _ => ?_)
      refine wp_iconst (v := 1) dL_law_732 (by decide) ?_
      refine wp_aload dL_law_733 rfl ?_
      refine wp_iconst (v := 5) dL_law_735 (by decide) ?_
      refine wp_aload dL_law_736 rfl ?_
      refine wp_iload dL_law_738 rfl ?_
      refine wp_iadn (i := c) (v := nI (k + 1)) rfl tA_238 (Nat.le_of_ble_eq_true rfl) (by rw [lA_238]; omega) (Nat.le_of_ble_eq_true rfl) dL_law_740 ((congrFun (f1 238 (by omega)).1 c).trans hp) ?_
      refine wp_iconst (v := 1) dL_law_741 (by decide) ?_
      refine wp_isub dL_law_742 ?_
      refine wp_top (nI_pred k) ?_
      refine wp_imul dL_law_743 ?_
      refine wp_iconst (v := 4) dL_law_744 (by decide) ?_
      refine wp_iadd dL_law_745 ?_
      refine wp_iadn (i := ((5 * k) + 4)) (ix_add (ix_mul rfl rfl) rfl) tA_239 (Nat.le_of_ble_eq_true rfl) (by rw [lA_239]; omega) (Nat.le_of_ble_eq_true rfl) dL_law_746 ((congrFun (f1 239 (by omega)).1 _).trans f4) ?_
      refine wp_isub dL_law_747 ?_
      refine wp_goto (tgt := 752) dL_law_748 (by decide) ?_
      refine wp_icmp_eq (tgt := 757) dL_law_752 (by decide) (fun h752 => ?_) (fun h752 => absurd rfl h752)
      refine wp_iload dL_law_757 rfl ?_
      refine wp_ifN_eq (a := 1) (tgt := 827) dL_law_759 (by decide) rfl (by omega) (fun h => absurd h (by decide)) (fun _ => ?_)
      refine wp_aload dL_law_762 rfl ?_
      refine wp_iconst (v := 5) dL_law_764 (by decide) ?_
      refine wp_aload dL_law_765 rfl ?_
      refine wp_iload dL_law_767 rfl ?_
      refine wp_iadn (i := c) (v := nI (k + 1)) rfl tA_238 (Nat.le_of_ble_eq_true rfl) (by rw [lA_238]; omega) (Nat.le_of_ble_eq_true rfl) dL_law_769 ((congrFun (f1 238 (by omega)).1 c).trans hp) ?_
      refine wp_iconst (v := 1) dL_law_770 (by decide) ?_
      refine wp_isub dL_law_771 ?_
      refine wp_top (nI_pred k) ?_
      refine wp_imul dL_law_772 ?_
      refine wp_iconst (v := 4) dL_law_773 (by decide) ?_
      refine wp_iadd dL_law_774 ?_
      refine wp_iconst (v := 1) dL_law_775 (by decide) ?_
      refine wp_iast (i := ((5 * k) + 4)) (ix_add (ix_mul rfl rfl) rfl) tA_239 (Nat.le_of_ble_eq_true rfl) (by rw [lA_239]; omega) (Nat.le_of_ble_eq_true rfl) dL_law_776 ?_
      refine wp_goto (tgt := 827) dL_law_777 (by decide) ?_
      refine wp_goto (tgt := 910) dL_law_827 (by decide) ?_
      have l1 : LT M1 234 238 (nP sg) sg := hl.fr (fun j _ => by rw [(f1 235 (by omega)).1]) (f1 236 (by omega)).1 (f1 237 (by omega)).1 (f1 238 (by omega)).1 (f1 239 (by omega)).1
      have ec : cnt (M1 238) c = cnt (M 238) c := by rw [(f1 238 (by omega)).1]
      first
        | (have en : nP (up sg (86 + 6 * cnt (M 238) c + 5) 1) = nP sg := nP_of (up_n _ _ (by omega))
           have lu := l1.urec hS hc36 hk (by rw [(f1 238 (by omega)).1]; exact hp) (i := 4) (by omega) 1
           rw [ec] at lu
           refine kk _ _ _ _ _ _ _ _ _ _ (LawI.of (c1.out fun a ha => u2_n _ _ _ (by omega)) (by rw [en]; exact lu) ?_ ?_ ((up_n _ _ (by omega)).trans hs3) (by omega))
           · rw [en, u2_n _ _ _ (by omega), (f1 235 (by omega)).1]
             exact hq4
           · rw [u2_n _ _ _ (by omega), u2_n _ _ _ (by omega), (f1 240 (by omega)).1, (f1 241 (by omega)).1]
             exact hG.cong (up_n _ _ (by omega)) fun j _ _ => up_n _ _ (by omega))
        | (have hno : ∀ j, j ≠ 4 → (j < 86 ∨ 122 ≤ j) → lfF sg (nP sg) (cnt (M 238) c) j = sg j := fun j h1 h2 => lfF_no h1 h2 h6
           have en : nP (lfF sg (nP sg) (cnt (M 238) c)) = nP sg - 1 := (hc.ok.1.klf hlt).nP
           have lp := l1.pl.lift hc36 (by rw [(f1 238 (by omega)).1]; exact n0)
           rw [ec] at lp
           refine kk _ _ _ _ _ _ _ _ _ _ (LawI.of (c1.out fun a ha => by rw [u2_n _ _ _ (by omega), u2_n _ _ _ (by omega)]) ?_ ?_ ?_ ((hno 3 (by omega) (by omega)).trans hs3) (by omega))
           · rw [en]
             refine ⟨fun i hi => ?_, fun e he => ?_, fun e he => ?_, ?_⟩
             · rw [u2_s, up_n _ _ (by omega), u2_n _ _ _ (by omega), hno _ (by omega) (by omega)]
               exact l1.1 i hi
             · rw [u2_n _ _ _ (by omega), u2_n _ _ _ (by omega), hno _ (by omega) (by omega)]
               exact l1.2.1 e he
             · rw [u2_n _ _ _ (by omega), u2_n _ _ _ (by omega), hno _ (by omega) (by omega)]
               exact l1.2.2.1 e he
             · rw [u2_n _ _ _ (by omega), u2_s, u2_n _ _ _ (by omega), u2_n _ _ _ (by omega)]
               exact lp
           · rw [en, u2_s, up_s]
             exact pk_sub (a := nP sg) (b := 1) (by omega)
           · rw [u2_n _ _ _ (by omega), u2_n _ _ _ (by omega), u2_n _ _ _ (by omega), u2_n _ _ _ (by omega), (f1 240 (by omega)).1, (f1 241 (by omega)).1]
             exact hG.cong (hno 5 (by omega) (by omega)) fun j _ _ => hno j (by omega) (by omega))

