/-! THE LAW: its turns, and its start -/
theorem NC.mv {M0 M M2 : Mm} {R0 R R2 : Rm} (h : NC M0 R0 M R 2) (e : ∀ a, a < 235 → M2 a = M a ∧ R2 a = R a) : NC M2 R2 M2 R2 2 := by
  obtain ⟨h1, ⟨a0, a1, a2, a3, a4, a5, a6, a7, a8⟩, ⟨b1, b2, b3⟩, ⟨c1, c2⟩, ⟨d1, d2, d3, d4⟩, e1⟩ := h
  refine ⟨fun _ _ => ⟨rfl, rfl⟩, ?_, ⟨b1.frame fun a _ _ => (e a (by omega)).2, b2.frame fun a _ _ => (e a (by omega)).2, b3.frame fun a _ _ => (e a (by omega)).2⟩, ⟨fun i hi => by rw [(e 32 (by omega)).2]; exact c1 i hi, fun k hk => (c2 k hk).frame fun a _ _ => (e a (by omega)).2⟩, ⟨d1.frame b1 (by omega) (by omega) fun a _ _ => e a (by omega), by rw [(e 29 (by omega)).1]; exact d2, by rw [(e 31 (by omega)).1]; exact d3, fun j => by rw [(e 154 (by omega)).1]; exact d4 j⟩, fun i hi => ⟨by rw [(e 153 (by omega)).2]; exact (e1 i hi).1, (e1 i hi).2.frame fun a _ _ => (e a (by omega)).2⟩⟩
  rw [(e 8 (by omega)).2, (e 29 (by omega)).2, (e 31 (by omega)).2]
  exact ⟨a0, a1, a2, a3, a4, a5, a6, a7, a8⟩
set_option maxRecDepth 100000 in
set_option maxHeartbeats 4000000 in
theorem lw_loop {γ : Gm} {l : Launch} {K : KT} (hL : γ.2.2.2.2.1 ≤ 260) (hK : ∀ M1 R1, K (some (.int 1)) 247 M1 R1) : ∀ (q t : Nat) (M : Mm) (R : Rm) (t15 t16 t17 t18 t19 t20 t21 t22 t23 t24 t25 t26 : Option Value), q + t = 24 → LawI M R t → WP γ l mL_law 9 8 247 98 [some (.ref 4), some (.ref 8), some (.ref 235), some (.ref 236), some (.ref 237), some (.ref 238), some (.ref 239), some (.ref 240), some (.ref 241), some (.ref 242), some (.ref 243), some (.ref 244), some (.ref 245), some (.ref 246), some (.int (nI t)), t15, t16, t17, t18, t19, t20, t21, t22, t23, t24, t25, t26] [] 247 M R K := by
  intro q
  induction q with
  | zero =>
    intro t M R t15 t16 t17 t18 t19 t20 t21 t22 t23 t24 t25 t26 hq hI
    obtain rfl : t = 24 := by omega
    refine wp_drop [some (.ref 4), some (.ref 8), some (.ref 235), some (.ref 236), some (.ref 237), some (.ref 238), some (.ref 239), some (.ref 240), some (.ref 241), some (.ref 242), some (.ref 243), some (.ref 244), some (.ref 245), some (.ref 246), some (.int (nI 24)), none, none, none, none, none, none, none, none, none, none, none, none] (by simp [leL]) ?_
    refine wp_iload dL_law_98 rfl ?_
    refine wp_bipush (v := 24) dL_law_100 (by decide) ?_
    refine wp_icN_ge (a := 24) (b := 24) (tgt := 981) dL_law_102 (by decide) rfl rfl (by omega) (by omega) (fun _ => ?_) (fun h => absurd h (by decide))
    refine wp_iconst (v := 1) dL_law_981 (by decide) ?_
    exact wp_iret dL_law_982 rfl rfl rfl (hK M R)
  | succ q ih =>
    intro t M R t15 t16 t17 t18 t19 t20 t21 t22 t23 t24 t25 t26 hq hI
    have ht : t < 24 := by omega
    have s975 : ∀ (x y : Int32) (kd c : Nat) (M2 : Mm) (R2 : Rm) (t19 t20 t21 t22 t23 t24 t25 t26 : Option Value), LawI M2 R2 (t + 1) → WP γ l mL_law 9 8 247 975 [some (.ref 4), some (.ref 8), some (.ref 235), some (.ref 236), some (.ref 237), some (.ref 238), some (.ref 239), some (.ref 240), some (.ref 241), some (.ref 242), some (.ref 243), some (.ref 244), some (.ref 245), some (.ref 246), some (.int (nI t)), some (.int x), some (.int y), some (.int (nI kd)), some (.int (nI c)), t19, t20, t21, t22, t23, t24, t25, t26] [] 247 M2 R2 K := by
      intro x y kd c M2 R2 t19 t20 t21 t22 t23 t24 t25 t26 hI2
      refine wp_drop [some (.ref 4), some (.ref 8), some (.ref 235), some (.ref 236), some (.ref 237), some (.ref 238), some (.ref 239), some (.ref 240), some (.ref 241), some (.ref 242), some (.ref 243), some (.ref 244), some (.ref 245), some (.ref 246), some (.int (nI t)), some (.int x), some (.int y), some (.int (nI kd)), some (.int (nI c)), none, none, none, none, none, none, none, none] (by simp [leL]) ?_
      refine wp_iinc (v := nI (t + 1)) (L' := [some (.ref 4), some (.ref 8), some (.ref 235), some (.ref 236), some (.ref 237), some (.ref 238), some (.ref 239), some (.ref 240), some (.ref 241), some (.ref 242), some (.ref 243), some (.ref 244), some (.ref 245), some (.ref 246), some (.int (nI (t + 1))), some (.int x), some (.int y), some (.int (nI kd)), some (.int (nI c)), none, none, none, none, none, none, none, none]) dL_law_975 (by decide) rfl (inc_1 _) rfl ?_
      refine wp_goto (tgt := 98) dL_law_978 (by decide) ?_
      exact ih (t + 1) M2 R2 _ _ _ _ _ _ _ _ _ _ _ _ (by omega) hI2
    have s910 : ∀ (x y : Int32) (kd c : Nat) (M1 : Mm) (R1 : Rm) (t19 t20 t21 t22 t23 t24 t25 t26 : Option Value), LawI M1 R1 (t + 1) → WP γ l mL_law 9 8 247 910 [some (.ref 4), some (.ref 8), some (.ref 235), some (.ref 236), some (.ref 237), some (.ref 238), some (.ref 239), some (.ref 240), some (.ref 241), some (.ref 242), some (.ref 243), some (.ref 244), some (.ref 245), some (.ref 246), some (.int (nI t)), some (.int x), some (.int y), some (.int (nI kd)), some (.int (nI c)), t19, t20, t21, t22, t23, t24, t25, t26] [] 247 M1 R1 K := by
      intro x y kd c M1 R1 t19 t20 t21 t22 t23 t24 t25 t26 hI1
      obtain ⟨sg, tx, F, rc, pl, hh, S, s, hc, hl, hq4, hG, hs3, hst⟩ := hI1
      refine wp_drop [some (.ref 4), some (.ref 8), some (.ref 235), some (.ref 236), some (.ref 237), some (.ref 238), some (.ref 239), some (.ref 240), some (.ref 241), some (.ref 242), some (.ref 243), some (.ref 244), some (.ref 245), some (.ref 246), some (.int (nI t)), some (.int x), some (.int y), some (.int (nI kd)), some (.int (nI c)), none, none, none, none, none, none, none, none] (by simp [leL]) ?_
      refine wp_aload_n dL_law_910 rfl ?_
      refine wp_iload dL_law_911 rfl ?_
      refine wp_aload_n dL_law_913 rfl ?_
      refine wp_aload_n dL_law_914 rfl ?_
      refine wp_aload dL_law_915 rfl ?_
      refine wp_aload dL_law_917 rfl ?_
      refine wp_aload dL_law_919 rfl ?_
      refine wp_aload dL_law_921 rfl ?_
      refine wp_aload dL_law_923 rfl ?_
      refine wp_cB9 (z := mL_same) (n' := 247) kL_95 dL_law_925 (Nat.le_of_ble_eq_true rfl) (Nat.le_of_ble_eq_true rfl) (Nat.le_of_ble_eq_true rfl) (Nat.le_of_ble_eq_true rfl) (Nat.le_refl _) (Nat.le_refl _) (s_L_same hc hl hq4 hG ((hl.q (by omega)).trans hs3) (by omega) (wp_af ?_))
      refine wp_ifN_eq (a := 1) (tgt := 973) dL_law_928 (by decide) rfl (by omega) (fun h => absurd h (by decide)) (fun _ => ?_)
      refine wp_iload dL_law_931 rfl ?_
      refine wp_bipush (v := 13) dL_law_933 (by decide) ?_
      refine wp_ishr dL_law_935 ?_
      refine wp_bipush (v := 7) dL_law_936 (by decide) ?_
      refine wp_cS2 (z := mL_low) (n' := 247) kL_47 dL_law_938 (Nat.le_of_ble_eq_true rfl) (Nat.le_of_ble_eq_true rfl) (Nat.le_of_ble_eq_true rfl) (Nat.le_refl _) (Nat.le_refl _) (s_lowX (n := 7) (by omega) (by decide) (fun w h_w => (wp_af ?_)))
      refine wp_ifN_ne (a := w) (tgt := 975) dL_law_941 (by decide) rfl (by omega) (fun h941 => ?_) (fun h941 => ?_)
      · first
          | exact s975 _ _ _ _ M1 R1 _ _ _ _ _ _ _ _ (LawI.of hc hl hq4 hG hs3 hst)
          | exact s975 _ _ _ _ M2 R1 _ _ _ _ _ _ _ _ (LawI.of c2 (hl.fr (fun j _ => by rw [f2 235 (by omega) (by omega)]) (f2 236 (by omega) (by omega)) (f2 237 (by omega) (by omega)) (f2 238 (by omega) (by omega)) (f2 239 (by omega) (by omega))) (by rw [f2 235 (by omega) (by omega)]; exact hq4) (by rw [f2 240 (by omega) (by omega), f2 241 (by omega) (by omega)]; exact hG) hs3 hst)
      · refine wp_aload_n dL_law_944 rfl ?_
        refine wp_iload dL_law_945 rfl ?_
        refine wp_iconst (v := 2) dL_law_947 (by decide) ?_
        refine wp_ishr dL_law_948 ?_
        refine wp_aload_n dL_law_949 rfl ?_
        refine wp_aload_n dL_law_950 rfl ?_
        refine wp_aload dL_law_951 rfl ?_
        refine wp_aload dL_law_953 rfl ?_
        refine wp_aload dL_law_955 rfl ?_
        refine wp_aload dL_law_957 rfl ?_
        refine wp_aload dL_law_959 rfl ?_
        refine wp_aload dL_law_961 rfl ?_
        refine wp_aload dL_law_963 rfl ?_
        refine wp_aload dL_law_965 rfl ?_
        refine wp_cB12 (z := mL_would) (n' := 247) kL_99 dL_law_967 (Nat.le_of_ble_eq_true rfl) (Nat.le_of_ble_eq_true rfl) (Nat.le_of_ble_eq_true rfl) (Nat.le_of_ble_eq_true rfl) (Nat.le_refl _) (Nat.le_refl _) (s_L_would hc hl hq4 (fun M2 c2 f2 => (wp_af ?_)))
        refine wp_ifN_ne (a := 1) (tgt := 975) dL_law_970 (by decide) rfl (by omega) (fun _ => ?_) (fun h => absurd h (by decide))
        first
          | exact s975 _ _ _ _ M1 R1 _ _ _ _ _ _ _ _ (LawI.of hc hl hq4 hG hs3 hst)
          | exact s975 _ _ _ _ M2 R1 _ _ _ _ _ _ _ _ (LawI.of c2 (hl.fr (fun j _ => by rw [f2 235 (by omega) (by omega)]) (f2 236 (by omega) (by omega)) (f2 237 (by omega) (by omega)) (f2 238 (by omega) (by omega)) (f2 239 (by omega) (by omega))) (by rw [f2 235 (by omega) (by omega)]; exact hq4) (by rw [f2 240 (by omega) (by omega), f2 241 (by omega) (by omega)]; exact hG) hs3 hst)
    obtain ⟨sg, tx, F, rc, pl, hh, S, s, hc, hl, hq4, hG, hs3, hst⟩ := hI
    have h6 := hc.ok.p6
    have s173 : ∀ (x y : Int32) (kd c : Nat), kd < 12 → c < 36 → WP γ l mL_law 9 8 247 173 [some (.ref 4), some (.ref 8), some (.ref 235), some (.ref 236), some (.ref 237), some (.ref 238), some (.ref 239), some (.ref 240), some (.ref 241), some (.ref 242), some (.ref 243), some (.ref 244), some (.ref 245), some (.ref 246), some (.int (nI t)), some (.int x), some (.int y), some (.int (nI kd)), some (.int (nI c)), none, none, none, none, none, none, none, none] [] 247 M R K := by
      intro x y kd c hkd hc36
      refine wp_iload dL_law_173 rfl ?_
      refine wp_iconst (v := 3) dL_law_175 (by decide) ?_
      refine wp_icN_ge (a := kd) (b := 3) (tgt := 458) dL_law_176 (by decide) rfl rfl (by omega) (by omega) (fun h176 => ?_) (fun h176 => ?_)
      · refine wp_iload dL_law_458 rfl ?_
        refine wp_bipush (v := 8) dL_law_460 (by decide) ?_
        refine wp_icN_ge (a := kd) (b := 8) (tgt := 590) dL_law_462 (by decide) rfl rfl (by omega) (by omega) (fun h462 => ?_) (fun h462 => ?_)
        · refine wp_iload dL_law_590 rfl ?_
          refine wp_bipush (v := 8) dL_law_592 (by decide) ?_
          refine wp_icN_ne (a := kd) (b := 8) (tgt := 652) dL_law_594 (by decide) rfl rfl (by omega) (by omega) (fun h594 => ?_) (fun h594 => ?_)
          · refine wp_iload dL_law_652 rfl ?_
            refine wp_bipush (v := 9) dL_law_654 (by decide) ?_
            refine wp_icN_ne (a := kd) (b := 9) (tgt := 690) dL_law_656 (by decide) rfl rfl (by omega) (by omega) (fun h656 => ?_) (fun h656 => ?_)
            · refine wp_iload dL_law_690 rfl ?_
              refine wp_bipush (v := 10) dL_law_692 (by decide) ?_
              refine wp_icN_ne (a := kd) (b := 10) (tgt := 830) dL_law_694 (by decide) rfl rfl (by omega) (by omega) (fun h694 => ?_) (fun h694 => ?_)
              · exact lk_set hc hl hq4 hG hs3 hst ht (fun M1 R1 t19 t20 t21 t22 t23 t24 t25 t26 h1 => s910 _ _ _ _ M1 R1 t19 t20 t21 t22 t23 t24 t25 t26 h1)
              · exact lk_again hc hl hq4 hG hs3 hst ht hc36 (fun M1 R1 t19 t20 t21 t22 t23 t24 t25 t26 h1 => s910 _ _ _ _ M1 R1 t19 t20 t21 t22 t23 t24 t25 t26 h1)
            · rcases hG with ⟨q5, q0, q1⟩ | ⟨c0, m, hc0, hm, q5, q122, q123, g0, g1, g5⟩
              · refine wp_aload dL_law_659 rfl ?_
                refine wp_iconst (v := 0) dL_law_661 (by decide) ?_
                refine wp_iadn (i := 0) rfl tA_240 (Nat.le_of_ble_eq_true rfl) (by rw [lA_240]; omega) (Nat.le_of_ble_eq_true rfl) dL_law_662 (q0) ?_
                refine wp_if_ge (tgt := 690) dL_law_663 (by decide) (fun h663 => absurd h663 (by decide)) (fun h663 => ?_)
                exact lk_gauge hc hl hq4 (Or.inl ⟨q5, q0, q1⟩) hs3 hst ht q5 q1 (fun M1 R1 t19 t20 t21 t22 t23 t24 t25 t26 h1 => s910 _ _ _ _ M1 R1 t19 t20 t21 t22 t23 t24 t25 t26 h1)
              · refine wp_aload dL_law_659 rfl ?_
                refine wp_iconst (v := 0) dL_law_661 (by decide) ?_
                refine wp_iadn (i := 0) (v := nI c0) rfl tA_240 (Nat.le_of_ble_eq_true rfl) (by rw [lA_240]; omega) (Nat.le_of_ble_eq_true rfl) dL_law_662 (g0) ?_
                refine wp_ifN_ge (a := c0) (tgt := 690) dL_law_663 (by decide) rfl (by omega) ?_
                refine wp_iload dL_law_690 rfl ?_
                refine wp_bipush (v := 10) dL_law_692 (by decide) ?_
                refine wp_icN_ne (a := kd) (b := 10) (tgt := 830) dL_law_694 (by decide) rfl rfl (by omega) (by omega) (fun h694 => ?_) (fun h694 => ?_)
                · exact lk_set hc hl hq4 (Or.inr ⟨c0, m, hc0, hm, q5, q122, q123, g0, g1, g5⟩) hs3 hst ht (fun M1 R1 t19 t20 t21 t22 t23 t24 t25 t26 h1 => s910 _ _ _ _ M1 R1 t19 t20 t21 t22 t23 t24 t25 t26 h1)
                · exact lk_again hc hl hq4 (Or.inr ⟨c0, m, hc0, hm, q5, q122, q123, g0, g1, g5⟩) hs3 hst ht hc36 (fun M1 R1 t19 t20 t21 t22 t23 t24 t25 t26 h1 => s910 _ _ _ _ M1 R1 t19 t20 t21 t22 t23 t24 t25 t26 h1)
          · exact lk_level hc hl hq4 hG hs3 hst ht (fun M1 R1 t19 t20 t21 t22 t23 t24 t25 t26 h1 => s910 _ _ _ _ M1 R1 t19 t20 t21 t22 t23 t24 t25 t26 h1)
        · exact lk_pass hc hl hq4 hG hs3 hst ht (fun M1 R1 t19 t20 t21 t22 t23 t24 t25 t26 h1 => s910 _ _ _ _ M1 R1 t19 t20 t21 t22 t23 t24 t25 t26 h1)
      · exact lk_paddle hc hl hq4 hG hs3 hst ht hc36 (fun M1 R1 t19 t20 t21 t22 t23 t24 t25 t26 h1 => s910 _ _ _ _ M1 R1 t19 t20 t21 t22 t23 t24 t25 t26 h1)
    have s144 : ∀ (x y : Int32) (kd : Nat), kd < 12 → WP γ l mL_law 9 8 247 144 [some (.ref 4), some (.ref 8), some (.ref 235), some (.ref 236), some (.ref 237), some (.ref 238), some (.ref 239), some (.ref 240), some (.ref 241), some (.ref 242), some (.ref 243), some (.ref 244), some (.ref 245), some (.ref 246), some (.int (nI t)), some (.int x), some (.int y), none, none, none, none, none, none, none, none, none, none] [.int (nI kd)] 247 M R K := by
      intro x y kd hkd
      refine wp_istore (L' := [some (.ref 4), some (.ref 8), some (.ref 235), some (.ref 236), some (.ref 237), some (.ref 238), some (.ref 239), some (.ref 240), some (.ref 241), some (.ref 242), some (.ref 243), some (.ref 244), some (.ref 245), some (.ref 246), some (.int (nI t)), some (.int x), some (.int y), some (.int (nI kd)), none, none, none, none, none, none, none, none, none]) dL_law_144 (by decide) rfl ?_
      refine wp_iload dL_law_146 rfl ?_
      refine wp_iconst (v := 4) dL_law_148 (by decide) ?_
      refine wp_ishr dL_law_149 ?_
      refine wp_iload dL_law_150 rfl ?_
      refine wp_bipush (v := 10) dL_law_152 (by decide) ?_
      refine wp_ishr dL_law_154 ?_
      refine wp_iconst (v := 2) dL_law_155 (by decide) ?_
      refine wp_cS2 (z := mL_low) (n' := 247) kL_47 dL_law_156 (Nat.le_of_ble_eq_true rfl) (Nat.le_of_ble_eq_true rfl) (Nat.le_of_ble_eq_true rfl) (Nat.le_refl _) (Nat.le_refl _) (s_lowX (n := 2) (by omega) (by decide) (fun e h_e => (wp_af ?_)))
      refine wp_ifN_ne (a := e) (tgt := 167) dL_law_159 (by decide) rfl (by omega) (fun h159 => ?_) (fun h159 => ?_)
      · refine wp_iconst (v := 5) dL_law_167 (by decide) ?_
        refine wp_cS2 (z := mL_low) (n' := 247) kL_47 dL_law_168 (Nat.le_of_ble_eq_true rfl) (Nat.le_of_ble_eq_true rfl) (Nat.le_of_ble_eq_true rfl) (Nat.le_refl _) (Nat.le_refl _) (s_lowX (n := 5) (by omega) (by decide) (fun c h_c => (wp_af ?_)))
        refine wp_istore (L' := [some (.ref 4), some (.ref 8), some (.ref 235), some (.ref 236), some (.ref 237), some (.ref 238), some (.ref 239), some (.ref 240), some (.ref 241), some (.ref 242), some (.ref 243), some (.ref 244), some (.ref 245), some (.ref 246), some (.int (nI t)), some (.int x), some (.int y), some (.int (nI kd)), some (.int (nI c)), none, none, none, none, none, none, none, none]) dL_law_171 (by decide) rfl ?_
        exact s173 _ _ kd c hkd (by omega)
      · refine wp_bipush (v := 36) dL_law_162 (by decide) ?_
        refine wp_goto (tgt := 168) dL_law_164 (by decide) ?_
        refine wp_cS2 (z := mL_low) (n' := 247) kL_47 dL_law_168 (Nat.le_of_ble_eq_true rfl) (Nat.le_of_ble_eq_true rfl) (Nat.le_of_ble_eq_true rfl) (Nat.le_refl _) (Nat.le_refl _) (s_lowX (n := 36) (by omega) (by decide) (fun c h_c => (wp_af ?_)))
        refine wp_istore (L' := [some (.ref 4), some (.ref 8), some (.ref 235), some (.ref 236), some (.ref 237), some (.ref 238), some (.ref 239), some (.ref 240), some (.ref 241), some (.ref 242), some (.ref 243), some (.ref 244), some (.ref 245), some (.ref 246), some (.int (nI t)), some (.int x), some (.int y), some (.int (nI kd)), some (.int (nI c)), none, none, none, none, none, none, none, none]) dL_law_171 (by decide) rfl ?_
        exact s173 _ _ kd c hkd (by omega)
    refine wp_drop [some (.ref 4), some (.ref 8), some (.ref 235), some (.ref 236), some (.ref 237), some (.ref 238), some (.ref 239), some (.ref 240), some (.ref 241), some (.ref 242), some (.ref 243), some (.ref 244), some (.ref 245), some (.ref 246), some (.int (nI t)), none, none, none, none, none, none, none, none, none, none, none, none] (by simp [leL]) ?_
    refine wp_iload dL_law_98 rfl ?_
    refine wp_bipush (v := 24) dL_law_100 (by decide) ?_
    refine wp_icN_ge (a := t) (b := 24) (tgt := 981) dL_law_102 (by decide) rfl rfl (by omega) (by omega) (fun h102 => absurd h102 (by omega)) (fun h102 => ?_)
    refine wp_aload_n dL_law_105 rfl ?_
    refine wp_iconst (v := 2) dL_law_106 (by decide) ?_
    refine wp_iload dL_law_107 rfl ?_
    refine wp_imul dL_law_109 ?_
    refine wp_top (z := nI (2 * t)) (ix_mul rfl rfl) ?_
    refine wp_cS2 (z := mL_cell) (n' := 247) kL_70 dL_law_110 (Nat.le_of_ble_eq_true rfl) (Nat.le_of_ble_eq_true rfl) (Nat.le_of_ble_eq_true rfl) (Nat.le_refl _) (Nat.le_refl _) (s_L_cell hL (by omega) (fun x => (wp_af ?_)))
    refine wp_istore (L' := [some (.ref 4), some (.ref 8), some (.ref 235), some (.ref 236), some (.ref 237), some (.ref 238), some (.ref 239), some (.ref 240), some (.ref 241), some (.ref 242), some (.ref 243), some (.ref 244), some (.ref 245), some (.ref 246), some (.int (nI t)), some (.int x), none, none, none, none, none, none, none, none, none, none, none]) dL_law_113 (by decide) rfl ?_
    refine wp_aload_n dL_law_115 rfl ?_
    refine wp_iconst (v := 2) dL_law_116 (by decide) ?_
    refine wp_iload dL_law_117 rfl ?_
    refine wp_imul dL_law_119 ?_
    refine wp_iconst (v := 1) dL_law_120 (by decide) ?_
    refine wp_iadd dL_law_121 ?_
    refine wp_top (z := nI ((2 * t) + 1)) (ix_add (ix_mul rfl rfl) rfl) ?_
    refine wp_cS2 (z := mL_cell) (n' := 247) kL_70 dL_law_122 (Nat.le_of_ble_eq_true rfl) (Nat.le_of_ble_eq_true rfl) (Nat.le_of_ble_eq_true rfl) (Nat.le_refl _) (Nat.le_refl _) (s_L_cell hL (by omega) (fun y => (wp_af ?_)))
    refine wp_istore (L' := [some (.ref 4), some (.ref 8), some (.ref 235), some (.ref 236), some (.ref 237), some (.ref 238), some (.ref 239), some (.ref 240), some (.ref 241), some (.ref 242), some (.ref 243), some (.ref 244), some (.ref 245), some (.ref 246), some (.int (nI t)), some (.int x), some (.int y), none, none, none, none, none, none, none, none, none, none]) dL_law_125 (by decide) rfl ?_
    refine wp_iload dL_law_127 rfl ?_
    refine wp_iconst (v := 2) dL_law_129 (by decide) ?_
    refine wp_icN_ge (a := t) (b := 2) (tgt := 137) dL_law_130 (by decide) rfl rfl (by omega) (by omega) (fun h130 => ?_) (fun h130 => ?_)
    · refine wp_iload dL_law_137 rfl ?_
      refine wp_bipush (v := 12) dL_law_139 (by decide) ?_
      refine wp_cS2 (z := mL_low) (n' := 247) kL_47 dL_law_141 (Nat.le_of_ble_eq_true rfl) (Nat.le_of_ble_eq_true rfl) (Nat.le_of_ble_eq_true rfl) (Nat.le_refl _) (Nat.le_refl _) (s_lowX (n := 12) (by omega) (by decide) (fun kd h_kd => (wp_af ?_)))
      exact s144 x y kd (by omega)
    · refine wp_iconst (v := 0) dL_law_133 (by decide) ?_
      refine wp_goto (tgt := 144) dL_law_134 (by decide) ?_
      exact s144 x y 0 (by omega)

set_option maxRecDepth 100000 in
set_option maxHeartbeats 4000000 in
theorem lw_body {γ : Gm} {l : Launch} {M : Mm} {R : Rm} {K : KT} (hL : γ.2.2.2.2.1 ≤ 260) (hK : ∀ M1 R1, K (some (.int 1)) 247 M1 R1) : WP γ l mL_law 9 8 247 0 [some (.ref 4), none, none, none, none, none, none, none, none, none, none, none, none, none, none, none, none, none, none, none, none, none, none, none, none, none, none] [] 8 M R K := by
  refine wp_new (ci := 5) ⟨_, rfl, q10⟩ tA_8 (by omega) dL_law_0 ?_
  show WP γ l mL_law 9 8 247 3 [some (.ref 4), none, none, none, none, none, none, none, none, none, none, none, none, none, none, none, none, none, none, none, none, none, none, none, none, none, none] (.ref 8 :: []) 9 _ _ K
  refine wp_dup dL_law_3 rfl ?_
  refine wp_callI (z := mX5_init) (n' := 235) kL_69 dL_law_4 (Nat.le_of_ble_eq_true rfl) (Nat.le_of_ble_eq_true rfl) (Nat.le_of_ble_eq_true rfl) (by omega) (by omega) (s_X5_init (fun M1 R1 hn => (wp_af0 ?_)))
  refine wp_astore_n (L' := [some (.ref 4), some (.ref 8), none, none, none, none, none, none, none, none, none, none, none, none, none, none, none, none, none, none, none, none, none, none, none, none, none]) dL_law_7 (by decide) rfl ?_
  refine wp_iconst (v := 5) dL_law_8 (by decide) ?_
  refine wp_nai rfl tA_235 lA_235 (by omega) (by omega) dL_law_9 ?_
  show WP γ l mL_law 9 8 247 11 [some (.ref 4), some (.ref 8), none, none, none, none, none, none, none, none, none, none, none, none, none, none, none, none, none, none, none, none, none, none, none, none, none] (.ref 235 :: []) 236 _ _ K
  refine wp_astore_n (L' := [some (.ref 4), some (.ref 8), some (.ref 235), none, none, none, none, none, none, none, none, none, none, none, none, none, none, none, none, none, none, none, none, none, none, none, none]) dL_law_11 (by decide) rfl ?_
  refine wp_bipush (v := 40) dL_law_12 (by decide) ?_
  refine wp_nai rfl tA_236 lA_236 (by omega) (by omega) dL_law_14 ?_
  show WP γ l mL_law 9 8 247 16 [some (.ref 4), some (.ref 8), some (.ref 235), none, none, none, none, none, none, none, none, none, none, none, none, none, none, none, none, none, none, none, none, none, none, none, none] (.ref 236 :: []) 237 _ _ K
  refine wp_astore_n (L' := [some (.ref 4), some (.ref 8), some (.ref 235), some (.ref 236), none, none, none, none, none, none, none, none, none, none, none, none, none, none, none, none, none, none, none, none, none, none, none]) dL_law_16 (by decide) rfl ?_
  refine wp_bipush (v := 40) dL_law_17 (by decide) ?_
  refine wp_nai rfl tA_237 lA_237 (by omega) (by omega) dL_law_19 ?_
  show WP γ l mL_law 9 8 247 21 [some (.ref 4), some (.ref 8), some (.ref 235), some (.ref 236), none, none, none, none, none, none, none, none, none, none, none, none, none, none, none, none, none, none, none, none, none, none, none] (.ref 237 :: []) 238 _ _ K
  refine wp_astore (L' := [some (.ref 4), some (.ref 8), some (.ref 235), some (.ref 236), some (.ref 237), none, none, none, none, none, none, none, none, none, none, none, none, none, none, none, none, none, none, none, none, none, none]) dL_law_21 (by decide) rfl ?_
  refine wp_bipush (v := 36) dL_law_23 (by decide) ?_
  refine wp_nai rfl tA_238 lA_238 (by omega) (by omega) dL_law_25 ?_
  show WP γ l mL_law 9 8 247 27 [some (.ref 4), some (.ref 8), some (.ref 235), some (.ref 236), some (.ref 237), none, none, none, none, none, none, none, none, none, none, none, none, none, none, none, none, none, none, none, none, none, none] (.ref 238 :: []) 239 _ _ K
  refine wp_astore (L' := [some (.ref 4), some (.ref 8), some (.ref 235), some (.ref 236), some (.ref 237), some (.ref 238), none, none, none, none, none, none, none, none, none, none, none, none, none, none, none, none, none, none, none, none, none]) dL_law_27 (by decide) rfl ?_
  refine wp_bipush (v := 30) dL_law_29 (by decide) ?_
  refine wp_nai rfl tA_239 lA_239 (by omega) (by omega) dL_law_31 ?_
  show WP γ l mL_law 9 8 247 33 [some (.ref 4), some (.ref 8), some (.ref 235), some (.ref 236), some (.ref 237), some (.ref 238), none, none, none, none, none, none, none, none, none, none, none, none, none, none, none, none, none, none, none, none, none] (.ref 239 :: []) 240 _ _ K
  refine wp_astore (L' := [some (.ref 4), some (.ref 8), some (.ref 235), some (.ref 236), some (.ref 237), some (.ref 238), some (.ref 239), none, none, none, none, none, none, none, none, none, none, none, none, none, none, none, none, none, none, none, none]) dL_law_33 (by decide) rfl ?_
  refine wp_iconst (v := 2) dL_law_35 (by decide) ?_
  refine wp_nai rfl tA_240 lA_240 (by omega) (by omega) dL_law_36 ?_
  show WP γ l mL_law 9 8 247 38 [some (.ref 4), some (.ref 8), some (.ref 235), some (.ref 236), some (.ref 237), some (.ref 238), some (.ref 239), none, none, none, none, none, none, none, none, none, none, none, none, none, none, none, none, none, none, none, none] (.ref 240 :: []) 241 _ _ K
  refine wp_astore (L' := [some (.ref 4), some (.ref 8), some (.ref 235), some (.ref 236), some (.ref 237), some (.ref 238), some (.ref 239), some (.ref 240), none, none, none, none, none, none, none, none, none, none, none, none, none, none, none, none, none, none, none]) dL_law_38 (by decide) rfl ?_
  refine wp_bipush (v := 60) dL_law_40 (by decide) ?_
  refine wp_nai rfl tA_241 lA_241 (by omega) (by omega) dL_law_42 ?_
  show WP γ l mL_law 9 8 247 44 [some (.ref 4), some (.ref 8), some (.ref 235), some (.ref 236), some (.ref 237), some (.ref 238), some (.ref 239), some (.ref 240), none, none, none, none, none, none, none, none, none, none, none, none, none, none, none, none, none, none, none] (.ref 241 :: []) 242 _ _ K
  refine wp_astore (L' := [some (.ref 4), some (.ref 8), some (.ref 235), some (.ref 236), some (.ref 237), some (.ref 238), some (.ref 239), some (.ref 240), some (.ref 241), none, none, none, none, none, none, none, none, none, none, none, none, none, none, none, none, none, none]) dL_law_44 (by decide) rfl ?_
  refine wp_iconst (v := 5) dL_law_46 (by decide) ?_
  refine wp_nai rfl tA_242 lA_242 (by omega) (by omega) dL_law_47 ?_
  show WP γ l mL_law 9 8 247 49 [some (.ref 4), some (.ref 8), some (.ref 235), some (.ref 236), some (.ref 237), some (.ref 238), some (.ref 239), some (.ref 240), some (.ref 241), none, none, none, none, none, none, none, none, none, none, none, none, none, none, none, none, none, none] (.ref 242 :: []) 243 _ _ K
  refine wp_astore (L' := [some (.ref 4), some (.ref 8), some (.ref 235), some (.ref 236), some (.ref 237), some (.ref 238), some (.ref 239), some (.ref 240), some (.ref 241), some (.ref 242), none, none, none, none, none, none, none, none, none, none, none, none, none, none, none, none, none]) dL_law_49 (by decide) rfl ?_
  refine wp_bipush (v := 40) dL_law_51 (by decide) ?_
  refine wp_nai rfl tA_243 lA_243 (by omega) (by omega) dL_law_53 ?_
  show WP γ l mL_law 9 8 247 55 [some (.ref 4), some (.ref 8), some (.ref 235), some (.ref 236), some (.ref 237), some (.ref 238), some (.ref 239), some (.ref 240), some (.ref 241), some (.ref 242), none, none, none, none, none, none, none, none, none, none, none, none, none, none, none, none, none] (.ref 243 :: []) 244 _ _ K
  refine wp_astore (L' := [some (.ref 4), some (.ref 8), some (.ref 235), some (.ref 236), some (.ref 237), some (.ref 238), some (.ref 239), some (.ref 240), some (.ref 241), some (.ref 242), some (.ref 243), none, none, none, none, none, none, none, none, none, none, none, none, none, none, none, none]) dL_law_55 (by decide) rfl ?_
  refine wp_bipush (v := 40) dL_law_57 (by decide) ?_
  refine wp_nai rfl tA_244 lA_244 (by omega) (by omega) dL_law_59 ?_
  show WP γ l mL_law 9 8 247 61 [some (.ref 4), some (.ref 8), some (.ref 235), some (.ref 236), some (.ref 237), some (.ref 238), some (.ref 239), some (.ref 240), some (.ref 241), some (.ref 242), some (.ref 243), none, none, none, none, none, none, none, none, none, none, none, none, none, none, none, none] (.ref 244 :: []) 245 _ _ K
  refine wp_astore (L' := [some (.ref 4), some (.ref 8), some (.ref 235), some (.ref 236), some (.ref 237), some (.ref 238), some (.ref 239), some (.ref 240), some (.ref 241), some (.ref 242), some (.ref 243), some (.ref 244), none, none, none, none, none, none, none, none, none, none, none, none, none, none, none]) dL_law_61 (by decide) rfl ?_
  refine wp_bipush (v := 36) dL_law_63 (by decide) ?_
  refine wp_nai rfl tA_245 lA_245 (by omega) (by omega) dL_law_65 ?_
  show WP γ l mL_law 9 8 247 67 [some (.ref 4), some (.ref 8), some (.ref 235), some (.ref 236), some (.ref 237), some (.ref 238), some (.ref 239), some (.ref 240), some (.ref 241), some (.ref 242), some (.ref 243), some (.ref 244), none, none, none, none, none, none, none, none, none, none, none, none, none, none, none] (.ref 245 :: []) 246 _ _ K
  refine wp_astore (L' := [some (.ref 4), some (.ref 8), some (.ref 235), some (.ref 236), some (.ref 237), some (.ref 238), some (.ref 239), some (.ref 240), some (.ref 241), some (.ref 242), some (.ref 243), some (.ref 244), some (.ref 245), none, none, none, none, none, none, none, none, none, none, none, none, none, none]) dL_law_67 (by decide) rfl ?_
  refine wp_bipush (v := 30) dL_law_69 (by decide) ?_
  refine wp_nai rfl tA_246 lA_246 (by omega) (by omega) dL_law_71 ?_
  show WP γ l mL_law 9 8 247 73 [some (.ref 4), some (.ref 8), some (.ref 235), some (.ref 236), some (.ref 237), some (.ref 238), some (.ref 239), some (.ref 240), some (.ref 241), some (.ref 242), some (.ref 243), some (.ref 244), some (.ref 245), none, none, none, none, none, none, none, none, none, none, none, none, none, none] (.ref 246 :: []) 247 _ _ K
  refine wp_astore (L' := [some (.ref 4), some (.ref 8), some (.ref 235), some (.ref 236), some (.ref 237), some (.ref 238), some (.ref 239), some (.ref 240), some (.ref 241), some (.ref 242), some (.ref 243), some (.ref 244), some (.ref 245), some (.ref 246), none, none, none, none, none, none, none, none, none, none, none, none, none]) dL_law_73 (by decide) rfl ?_
  refine wp_aload_n dL_law_75 rfl ?_
  refine wp_iconst (v := 0) dL_law_76 (by decide) ?_
  refine wp_bipush (v := 80) dL_law_77 (by decide) ?_
  refine wp_iast (i := 0) rfl tA_235 (Nat.le_of_ble_eq_true rfl) (by rw [lA_235]; omega) (Nat.le_of_ble_eq_true rfl) dL_law_79 ?_
  refine wp_aload_n dL_law_80 rfl ?_
  refine wp_iconst (v := 1) dL_law_81 (by decide) ?_
  refine wp_iconst (v := 2) dL_law_82 (by decide) ?_
  refine wp_iast (i := 1) rfl tA_235 (Nat.le_of_ble_eq_true rfl) (by rw [lA_235]; omega) (Nat.le_of_ble_eq_true rfl) dL_law_83 ?_
  refine wp_aload_n dL_law_84 rfl ?_
  refine wp_iconst (v := 2) dL_law_85 (by decide) ?_
  refine wp_sipush (v := 500) dL_law_86 (by decide) ?_
  refine wp_iast (i := 2) rfl tA_235 (Nat.le_of_ble_eq_true rfl) (by rw [lA_235]; omega) (Nat.le_of_ble_eq_true rfl) dL_law_89 ?_
  refine wp_aload dL_law_90 rfl ?_
  refine wp_iconst (v := 0) dL_law_92 (by decide) ?_
  refine wp_iconst (v := (-1)) dL_law_93 (by decide) ?_
  refine wp_iast (i := 0) rfl tA_240 (Nat.le_of_ble_eq_true rfl) (by rw [lA_240]; omega) (Nat.le_of_ble_eq_true rfl) dL_law_94 ?_
  refine wp_iconst (v := 0) dL_law_95 (by decide) ?_
  refine wp_istore (L' := [some (.ref 4), some (.ref 8), some (.ref 235), some (.ref 236), some (.ref 237), some (.ref 238), some (.ref 239), some (.ref 240), some (.ref 241), some (.ref 242), some (.ref 243), some (.ref 244), some (.ref 245), some (.ref 246), some (.int _), none, none, none, none, none, none, none, none, none, none, none, none]) dL_law_96 (by decide) rfl ?_
  have hn2 := hn.mv (M2 := (u2 (u2 (u2 (u2 (z0 (z0 (z0 (z0 (z0 (z0 (z0 (z0 (z0 (z0 (z0 (z0 M1 235) 236) 237) 238) 239) 240) 241) 242) 243) 244) 245) 246) 235 0 80) 235 1 2) 235 2 500) 240 0 (-1))) (R2 := (z0 (z0 (z0 (z0 (z0 (z0 (z0 (z0 (z0 (z0 (z0 (z0 R1 235) 236) 237) 238) 239) 240) 241) 242) 243) 244) 245) 246)) (fun a ha => ⟨by simp only [u2, z0]; rw [up_n _ _ (by omega), up_n _ _ (by omega), up_n _ _ (by omega), up_n _ _ (by omega), up_n _ _ (by omega), up_n _ _ (by omega), up_n _ _ (by omega), up_n _ _ (by omega), up_n _ _ (by omega), up_n _ _ (by omega), up_n _ _ (by omega), up_n _ _ (by omega), up_n _ _ (by omega), up_n _ _ (by omega), up_n _ _ (by omega), up_n _ _ (by omega)], by simp only [z0]; rw [up_n _ _ (by omega), up_n _ _ (by omega), up_n _ _ (by omega), up_n _ _ (by omega), up_n _ _ (by omega), up_n _ _ (by omega), up_n _ _ (by omega), up_n _ _ (by omega), up_n _ _ (by omega), up_n _ _ (by omega), up_n _ _ (by omega), up_n _ _ (by omega)]⟩)
  have hc := (hn2.done (fun _ _ => 0) (fun _ _ => 0) (fun _ => 0)).1
  obtain ⟨M2, hM2⟩ : ∃ M2, M2 = (u2 (u2 (u2 (u2 (z0 (z0 (z0 (z0 (z0 (z0 (z0 (z0 (z0 (z0 (z0 (z0 M1 235) 236) 237) 238) 239) 240) 241) 242) 243) 244) 245) 246) 235 0 80) 235 1 2) 235 2 500) 240 0 (-1)) := ⟨_, rfl⟩
  obtain ⟨R2, hR2⟩ : ∃ R2, R2 = (z0 (z0 (z0 (z0 (z0 (z0 (z0 (z0 (z0 (z0 (z0 (z0 R1 235) 236) 237) 238) 239) 240) 241) 242) 243) 244) 245) 246) := ⟨_, rfl⟩
  rw [← hM2, ← hR2] at hc
  refine wp_mem hM2.symm ?_
  rw [← hR2]
  have e235 : M2 235 = up (up (up (fun _ => 0) 0 80) 1 2) 2 500 := by rw [hM2]; simp [u2, z0, up]
  have e240 : M2 240 = up (fun _ => 0) 0 (-1) := by rw [hM2]; simp [u2, z0, up]
  have ez : ∀ a, (a = 236 ∨ a = 237 ∨ a = 238 ∨ a = 239 ∨ a = 241) → M2 a = fun _ => 0 := fun a ha => by
    rw [hM2]
    rcases ha with h | h | h | h | h <;> subst h <;> simp [u2, z0, up]
  have hnp : nP sg0 = 0 := by decide
  refine lw_loop hL hK 24 0 M2 R2 _ _ _ _ _ _ _ _ _ _ _ _ rfl (LawI.of (s := 0) hc ?_ ?_ ?_ rfl (by omega))
  · rw [hnp]
    refine ⟨fun i hi => ?_, fun c hc2 => ?_, fun c hc2 => ?_, fun c hc2 => ⟨0, by omega, by rw [ez 238 (by omega)]; rfl⟩, fun c e hc2 he _ hn0 => absurd (by rw [ez 238 (by omega)]) hn0, ?_, fun c k hc2 hk hp => absurd (hp.symm.trans (by rw [ez 238 (by omega)])) (nI_s0 (by omega))⟩
    · rw [e235]
      rcases (by omega : i = 0 ∨ i = 1 ∨ i = 2 ∨ i = 3) with h | h | h | h <;> subst h <;> rfl
    · rw [ez 236 (by omega), sg0, if_neg (by omega), if_neg (by omega), if_neg (by omega)]
    · rw [ez 237 (by omega), sg0, if_neg (by omega), if_neg (by omega), if_neg (by omega)]
    · rw [ez 238 (by omega)]
      decide
  · rw [hnp, e235]
    rfl
  · exact Or.inl ⟨rfl, by rw [e240]; rfl, by rw [e240]; rfl⟩

