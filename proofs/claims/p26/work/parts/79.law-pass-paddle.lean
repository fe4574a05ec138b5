/-! THE LAW: steps pass; a paddle comes -/
set_option maxRecDepth 100000 in
set_option maxHeartbeats 4000000 in
theorem lk_pass {γ : Gm} {l : Launch} {M : Mm} {R : Rm} {K : KT} {x y : Int32} {sg tx F : Nat → Int32} {rc pl t kd c s : Nat} {hs S : Nat → Nat → Int32} {t19 t20 t21 t22 t23 t24 t25 t26 : Option Value} (hc : IC M R sg rc hs F S tx pl) (hl : LT M 234 238 (nP sg) sg) (hq4 : M 235 4 = nI (nP sg)) (hG : GL (M 240) (M 241) sg s) (hs3 : sg 3 = nI s) (hst : s ≤ 99 * t) (ht : t < 24) (kk : ∀ M1 R1 (t19 t20 t21 t22 t23 t24 t25 t26 : Option Value), LawI M1 R1 (t + 1) → WP γ l mL_law 9 8 247 910 [some (.ref 4), some (.ref 8), some (.ref 235), some (.ref 236), some (.ref 237), some (.ref 238), some (.ref 239), some (.ref 240), some (.ref 241), some (.ref 242), some (.ref 243), some (.ref 244), some (.ref 245), some (.ref 246), some (.int (nI t)), some (.int x), some (.int y), some (.int (nI kd)), some (.int (nI c)), t19, t20, t21, t22, t23, t24, t25, t26] [] 247 M1 R1 K)  : WP γ l mL_law 9 8 247 465 [some (.ref 4), some (.ref 8), some (.ref 235), some (.ref 236), some (.ref 237), some (.ref 238), some (.ref 239), some (.ref 240), some (.ref 241), some (.ref 242), some (.ref 243), some (.ref 244), some (.ref 245), some (.ref 246), some (.int (nI t)), some (.int x), some (.int y), some (.int (nI kd)), some (.int (nI c)), t19, t20, t21, t22, t23, t24, t25, t26] [] 247 M R K := by
  have h6 := hc.ok.p6
  have hS : SA 234 238 := Or.inl ⟨rfl, rfl⟩
  have hok := hc.ok.1
  have s493 : ∀ (n : Nat) (t20 t21 t22 t23 t24 t25 t26 : Option Value), 1 ≤ n → n ≤ 99 → WP γ l mL_law 9 8 247 493 [some (.ref 4), some (.ref 8), some (.ref 235), some (.ref 236), some (.ref 237), some (.ref 238), some (.ref 239), some (.ref 240), some (.ref 241), some (.ref 242), some (.ref 243), some (.ref 244), some (.ref 245), some (.ref 246), some (.int (nI t)), some (.int x), some (.int y), some (.int (nI kd)), some (.int (nI c)), some (.int (nI n)), t20, t21, t22, t23, t24, t25, t26] [] 247 M R K := by
    intro n t20 t21 t22 t23 t24 t25 t26 hn1 hn2
    have hw : ¬ whyN sg (nI n) < 0 := by
      rw [whyN, if_pos ⟨(nI_leI (a := 1) (by omega) (by omega)).mpr hn1, (nI_leI (b := 99) (by omega) (by omega)).mpr hn2⟩, hs3, nI_add, if_neg (show ¬ (99999 : Int32) < nI (s + n) from fun h => absurd ((nI_ltI (a := 99999) (by omega) (by omega)).mp h) (by omega))]
      decide
    have loop : ∀ (q k : Nat) (st : Int32) (M1 : Mm) (t22 t23 t24 t25 t26 : Option Value), q + k = n → st = psC (nP sg) (nG sg) sg k → LT M1 234 238 (nP sg) (psF (nP sg) (nG sg) sg k) → GL (M1 240) (M1 241) (psF (nP sg) (nG sg) sg k) (s + k) → (∀ a, a < 235 → M1 a = M a) → M1 235 4 = nI (nP sg) → WP γ l mL_law 9 8 247 499 [some (.ref 4), some (.ref 8), some (.ref 235), some (.ref 236), some (.ref 237), some (.ref 238), some (.ref 239), some (.ref 240), some (.ref 241), some (.ref 242), some (.ref 243), some (.ref 244), some (.ref 245), some (.ref 246), some (.int (nI t)), some (.int x), some (.int y), some (.int (nI kd)), some (.int (nI c)), some (.int (nI n)), some (.int st), some (.int (nI k)), t22, t23, t24, t25, t26] [] 247 M1 R K := by
      intro q
      induction q with
      | zero =>
        intro k st M1 t22 t23 t24 t25 t26 hq hst2 hl1 hG1 hF h4
        obtain rfl : k = n := by omega
        have c1 := hc.out hF
        refine wp_drop [some (.ref 4), some (.ref 8), some (.ref 235), some (.ref 236), some (.ref 237), some (.ref 238), some (.ref 239), some (.ref 240), some (.ref 241), some (.ref 242), some (.ref 243), some (.ref 244), some (.ref 245), some (.ref 246), some (.int (nI t)), some (.int x), some (.int y), some (.int (nI kd)), some (.int (nI c)), some (.int (nI k)), some (.int st), some (.int (nI k)), none, none, none, none, none] (by simp [leL]) ?_
        refine wp_iload dL_law_499 rfl ?_
        refine wp_iload dL_law_501 rfl ?_
        refine wp_icN_ge (a := k) (b := k) (tgt := 574) dL_law_503 (by decide) rfl rfl (by omega) (by omega) (fun h503 => ?_) (fun h503 => absurd h503 (by omega))
        refine wp_aload_n dL_law_574 rfl ?_
        refine wp_iload dL_law_575 rfl ?_
        refine wp_cV1 (z := mX5_pass) (n' := 247) kL_77 dL_law_577 (Nat.le_of_ble_eq_true rfl) (Nat.le_of_ble_eq_true rfl) tA_8 (Nat.le_of_ble_eq_true rfl) (Nat.le_of_ble_eq_true rfl) (Nat.le_refl _) (Nat.le_refl _) (s_X5_pass c1 (fun hn => absurd hn hw) (fun _ k2 _ _ e M2 R2 c2 f2 => (wp_af ?_)))
        obtain rfl := (nI_eq (by omega) (by omega)).mp e
        refine wp_iload dL_law_580 rfl ?_
        refine wp_icmp_eq (tgt := 587) dL_law_582 (by decide) (fun h582 => ?_) (fun h582 => absurd hst2.symm h582)
        refine wp_goto (tgt := 910) dL_law_587 (by decide) ?_
        have en : nP (psF (nP sg) (nG sg) sg k) = nP sg := (hok.kpsF k).nP
        refine kk _ _ _ _ _ _ _ _ _ _ (LawI.of c2 ?_ ?_ ?_ (psF_st hok hs3 k) (by omega))
        · rw [en]
          exact hl1.fr (fun j _ => by rw [(f2 235 (by omega)).1]) (f2 236 (by omega)).1 (f2 237 (by omega)).1 (f2 238 (by omega)).1 (f2 239 (by omega)).1
        · rw [en, (f2 235 (by omega)).1]
          exact h4
        · rw [(f2 240 (by omega)).1, (f2 241 (by omega)).1]
          exact hG1
      | succ q ih =>
        intro k st M1 t22 t23 t24 t25 t26 hq hst2 hl1 hG1 hF h4
        have hok1 := hok.kpsF k
        have nxt : ∀ (M3 : Mm) (t22 t23 t24 t25 t26 : Option Value), LT M3 234 238 (nP sg) (stF (nP sg) (nG sg) (psF (nP sg) (nG sg) sg k)) → GL (M3 240) (M3 241) (stF (nP sg) (nG sg) (psF (nP sg) (nG sg) sg k)) (s + (k + 1)) → (∀ a, a < 235 → M3 a = M a) → M3 235 4 = nI (nP sg) → WP γ l mL_law 9 8 247 499 [some (.ref 4), some (.ref 8), some (.ref 235), some (.ref 236), some (.ref 237), some (.ref 238), some (.ref 239), some (.ref 240), some (.ref 241), some (.ref 242), some (.ref 243), some (.ref 244), some (.ref 245), some (.ref 246), some (.int (nI t)), some (.int x), some (.int y), some (.int (nI kd)), some (.int (nI c)), some (.int (nI n)), some (.int (st + pcN (psF (nP sg) (nG sg) sg k) (nP sg))), some (.int (nI (k + 1))), t22, t23, t24, t25, t26] [] 247 M3 R K := fun M3 t22 t23 t24 t25 t26 a1 a2 a3 a4 => ih (k + 1) _ M3 t22 t23 t24 t25 t26 (by omega) (by rw [hst2]; rfl) a1 a2 a3 a4
        rcases hG1 with ⟨q5, q0, q1⟩ | ⟨c0, m, hc0, hm, q5, q122, q123, g0, g1, g5⟩
        · refine wp_drop [some (.ref 4), some (.ref 8), some (.ref 235), some (.ref 236), some (.ref 237), some (.ref 238), some (.ref 239), some (.ref 240), some (.ref 241), some (.ref 242), some (.ref 243), some (.ref 244), some (.ref 245), some (.ref 246), some (.int (nI t)), some (.int x), some (.int y), some (.int (nI kd)), some (.int (nI c)), some (.int (nI n)), some (.int st), some (.int (nI k)), none, none, none, none, none] (by simp [leL]) ?_
          refine wp_iload dL_law_499 rfl ?_
          refine wp_iload dL_law_501 rfl ?_
          refine wp_icN_ge (a := k) (b := n) (tgt := 574) dL_law_503 (by decide) rfl rfl (by omega) (by omega) (fun h503 => absurd h503 (by omega)) (fun h503 => ?_)
          refine wp_iload dL_law_506 rfl ?_
          refine wp_aload_n dL_law_508 rfl ?_
          refine wp_aload_n dL_law_509 rfl ?_
          refine wp_aload dL_law_510 rfl ?_
          refine wp_aload dL_law_512 rfl ?_
          refine wp_aload dL_law_514 rfl ?_
          refine wp_cS5 (z := mL_step) (n' := 247) kL_54 dL_law_516 (Nat.le_of_ble_eq_true rfl) (Nat.le_of_ble_eq_true rfl) (Nat.le_of_ble_eq_true rfl) (Nat.le_refl _) (Nat.le_refl _) (s_L_step hS hl1 hok1 (fun M2 f2 l2 => (wp_af ?_)))
          refine wp_iadd dL_law_519 ?_
          refine wp_istore (L' := [some (.ref 4), some (.ref 8), some (.ref 235), some (.ref 236), some (.ref 237), some (.ref 238), some (.ref 239), some (.ref 240), some (.ref 241), some (.ref 242), some (.ref 243), some (.ref 244), some (.ref 245), some (.ref 246), some (.int (nI t)), some (.int x), some (.int y), some (.int (nI kd)), some (.int (nI c)), some (.int (nI n)), some (.int _), some (.int (nI k)), none, none, none, none, none]) dL_law_520 (by decide) rfl ?_
          refine wp_aload dL_law_522 rfl ?_
          refine wp_iconst (v := 0) dL_law_524 (by decide) ?_
          refine wp_iadn (i := 0) rfl tA_240 (Nat.le_of_ble_eq_true rfl) (by rw [lA_240]; omega) (Nat.le_of_ble_eq_true rfl) dL_law_525 ((congrFun (f2.1 240 (by omega) (by omega) (by omega) (by omega)) 0).trans q0) ?_
          refine wp_if_ge (tgt := 532) dL_law_526 (by decide) (fun h526 => absurd h526 (by decide)) (fun h526 => ?_)
          refine wp_goto (tgt := 568) dL_law_529 (by decide) ?_
          refine wp_iinc (v := nI (k + 1)) (L' := [some (.ref 4), some (.ref 8), some (.ref 235), some (.ref 236), some (.ref 237), some (.ref 238), some (.ref 239), some (.ref 240), some (.ref 241), some (.ref 242), some (.ref 243), some (.ref 244), some (.ref 245), some (.ref 246), some (.int (nI t)), some (.int x), some (.int y), some (.int (nI kd)), some (.int (nI c)), some (.int (nI n)), some (.int _), some (.int (nI (k + 1))), none, none, none, none, none]) dL_law_568 (by decide) rfl (inc_1 _) rfl ?_
          refine wp_goto (tgt := 499) dL_law_571 (by decide) ?_
          have e5 : (stF (nP sg) (nG sg) (psF (nP sg) (nG sg) sg k)) 5 = (psF (nP sg) (nG sg) sg k) 5 := (hok1.kstF.1.2.1.1).trans hok1.2.1.1.symm
          exact nxt M2 _ _ _ _ _ l2 (Or.inl ⟨e5.trans q5, by rw [f2.1 240 (by omega) (by omega) (by omega) (by omega)]; exact q0, by rw [f2.1 240 (by omega) (by omega) (by omega) (by omega)]; exact q1⟩) (fun a ha => by rw [f2.1 a (by omega) (by omega) (by omega) (by omega)]; exact hF a ha) ((f2.2 4 (by omega)).trans h4)
        · have hng : nG sg = 1 := ((hok1.nG).symm).trans (nG_1 q5)
          have est : (stF (nP sg) (nG sg) (psF (nP sg) (nG sg) sg k)) = nt1 (up (stM (nP sg) (psF (nP sg) (nG sg) sg k)) 3 (stM (nP sg) (psF (nP sg) (nG sg) sg k) 3 + 1)) 0 := by
            show ntN (up (stM (nP sg) (psF (nP sg) (nG sg) sg k)) 3 (stM (nP sg) (psF (nP sg) (nG sg) sg k) 3 + 1)) (nG sg) = _
            rw [hng]
            rfl
          have ehi : ∀ j, j = 5 ∨ 122 ≤ j → (up (stM (nP sg) (psF (nP sg) (nG sg) sg k)) 3 (stM (nP sg) (psF (nP sg) (nG sg) sg k) 3 + 1)) j = (psF (nP sg) (nG sg) sg k) j := fun j hj => by rw [up_n _ _ (by omega)]; exact stM_hi hok1 hj
          have ent : (stF (nP sg) (nG sg) (psF (nP sg) (nG sg) sg k)) (6 + c0) = ntV (up (stM (nP sg) (psF (nP sg) (nG sg) sg k)) 3 (stM (nP sg) (psF (nP sg) (nG sg) sg k) 3 + 1)) 0 := by
            rw [ntV, show (up (stM (nP sg) (psF (nP sg) (nG sg) sg k)) 3 (stM (nP sg) (psF (nP sg) (nG sg) sg k) 3 + 1)) (122 + 62 * 0) = nI c0 from (ehi 122 (by omega)).trans q122, nI_clamp (by omega)]
            exact stF_lo hok1 (by omega)
          refine wp_drop [some (.ref 4), some (.ref 8), some (.ref 235), some (.ref 236), some (.ref 237), some (.ref 238), some (.ref 239), some (.ref 240), some (.ref 241), some (.ref 242), some (.ref 243), some (.ref 244), some (.ref 245), some (.ref 246), some (.int (nI t)), some (.int x), some (.int y), some (.int (nI kd)), some (.int (nI c)), some (.int (nI n)), some (.int st), some (.int (nI k)), none, none, none, none, none] (by simp [leL]) ?_
          refine wp_iload dL_law_499 rfl ?_
          refine wp_iload dL_law_501 rfl ?_
          refine wp_icN_ge (a := k) (b := n) (tgt := 574) dL_law_503 (by decide) rfl rfl (by omega) (by omega) (fun h503 => absurd h503 (by omega)) (fun h503 => ?_)
          refine wp_iload dL_law_506 rfl ?_
          refine wp_aload_n dL_law_508 rfl ?_
          refine wp_aload_n dL_law_509 rfl ?_
          refine wp_aload dL_law_510 rfl ?_
          refine wp_aload dL_law_512 rfl ?_
          refine wp_aload dL_law_514 rfl ?_
          refine wp_cS5 (z := mL_step) (n' := 247) kL_54 dL_law_516 (Nat.le_of_ble_eq_true rfl) (Nat.le_of_ble_eq_true rfl) (Nat.le_of_ble_eq_true rfl) (Nat.le_refl _) (Nat.le_refl _) (s_L_step hS hl1 hok1 (fun M2 f2 l2 => (wp_af ?_)))
          refine wp_iadd dL_law_519 ?_
          refine wp_istore (L' := [some (.ref 4), some (.ref 8), some (.ref 235), some (.ref 236), some (.ref 237), some (.ref 238), some (.ref 239), some (.ref 240), some (.ref 241), some (.ref 242), some (.ref 243), some (.ref 244), some (.ref 245), some (.ref 246), some (.int (nI t)), some (.int x), some (.int y), some (.int (nI kd)), some (.int (nI c)), some (.int (nI n)), some (.int _), some (.int (nI k)), none, none, none, none, none]) dL_law_520 (by decide) rfl ?_
          refine wp_aload dL_law_522 rfl ?_
          refine wp_iconst (v := 0) dL_law_524 (by decide) ?_
          refine wp_iadn (i := 0) (v := nI c0) rfl tA_240 (Nat.le_of_ble_eq_true rfl) (by rw [lA_240]; omega) (Nat.le_of_ble_eq_true rfl) dL_law_525 ((congrFun (f2.1 240 (by omega) (by omega) (by omega) (by omega)) 0).trans g0) ?_
          refine wp_ifN_ge (a := c0) (tgt := 532) dL_law_526 (by decide) rfl (by omega) ?_
          refine wp_aload dL_law_532 rfl ?_
          refine wp_aload_n dL_law_534 rfl ?_
          refine wp_iconst (v := 3) dL_law_535 (by decide) ?_
          refine wp_iadn (i := 3) (v := nI (s + k + 1)) rfl tA_235 (Nat.le_of_ble_eq_true rfl) (by rw [lA_235]; omega) (Nat.le_of_ble_eq_true rfl) dL_law_536 ((l2.q (by omega)).trans (stF_st hok1 (psF_st hok hs3 k))) ?_
          refine wp_bipush (v := 60) dL_law_537 (by decide) ?_
          refine wp_irem dL_law_539 (by decide) ?_
          refine wp_top (pk_rem (a := s + k + 1) (d := 60) (by omega) (by omega) (by omega)) ?_
          refine wp_aload_n dL_law_540 rfl ?_
          refine wp_aload dL_law_541 rfl ?_
          refine wp_iconst (v := 0) dL_law_543 (by decide) ?_
          refine wp_iadn (i := 0) (v := nI c0) rfl tA_240 (Nat.le_of_ble_eq_true rfl) (by rw [lA_240]; omega) (Nat.le_of_ble_eq_true rfl) dL_law_544 ((congrFun (f2.1 240 (by omega) (by omega) (by omega) (by omega)) 0).trans g0) ?_
          refine wp_iadn (i := c0) rfl tA_236 (Nat.le_of_ble_eq_true rfl) (by rw [lA_236]; omega) (Nat.le_of_ble_eq_true rfl) dL_law_545 (l2.l (by omega)) ?_
          refine wp_iast (i := ((s + k + 1) % 60)) rfl tA_241 (Nat.le_of_ble_eq_true rfl) (by rw [lA_241]; exact Nat.mod_lt _ (by omega)) (Nat.le_of_ble_eq_true rfl) dL_law_546 ?_
          refine wp_aload dL_law_547 rfl ?_
          refine wp_iconst (v := 1) dL_law_549 (by decide) ?_
          refine wp_dup2 dL_law_550 rfl rfl ?_
          refine wp_iadn (i := 1) (v := nI m) rfl tA_240 (Nat.le_of_ble_eq_true rfl) (by rw [lA_240]; omega) (Nat.le_of_ble_eq_true rfl) dL_law_551 ((congrFun (u2_n _ _ _ (by omega)) 1).trans ((congrFun (f2.1 240 (by omega) (by omega) (by omega) (by omega)) 1).trans g1)) ?_
          refine wp_aload dL_law_552 rfl ?_
          refine wp_iconst (v := 1) dL_law_554 (by decide) ?_
          refine wp_iadn (i := 1) (v := nI m) rfl tA_240 (Nat.le_of_ble_eq_true rfl) (by rw [lA_240]; omega) (Nat.le_of_ble_eq_true rfl) dL_law_555 ((congrFun (u2_n _ _ _ (by omega)) 1).trans ((congrFun (f2.1 240 (by omega) (by omega) (by omega) (by omega)) 1).trans g1)) ?_
          refine wp_bipush (v := 60) dL_law_556 (by decide) ?_
          refine wp_icN_ge (a := m) (b := 60) (tgt := 565) dL_law_558 (by decide) rfl rfl (by omega) (by omega) (fun h558 => ?_) (fun h558 => ?_)
          · refine wp_iconst (v := 0) dL_law_565 (by decide) ?_
            refine wp_iadd dL_law_566 ?_
            refine wp_iast (i := 1) rfl tA_240 (Nat.le_of_ble_eq_true rfl) (by rw [lA_240]; omega) (Nat.le_of_ble_eq_true rfl) dL_law_567 ?_
            refine wp_iinc (v := nI (k + 1)) (L' := [some (.ref 4), some (.ref 8), some (.ref 235), some (.ref 236), some (.ref 237), some (.ref 238), some (.ref 239), some (.ref 240), some (.ref 241), some (.ref 242), some (.ref 243), some (.ref 244), some (.ref 245), some (.ref 246), some (.int (nI t)), some (.int x), some (.int y), some (.int (nI kd)), some (.int (nI c)), some (.int (nI n)), some (.int _), some (.int (nI (k + 1))), none, none, none, none, none]) dL_law_568 (by decide) rfl (inc_1 _) rfl ?_
            refine wp_goto (tgt := 499) dL_law_571 (by decide) ?_
            refine nxt _ _ _ _ _ _ (l2.fr (fun j _ => by rw [u2_n _ _ _ (by omega), u2_n _ _ _ (by omega)]) (by rw [u2_n _ _ _ (by omega), u2_n _ _ _ (by omega)]) (by rw [u2_n _ _ _ (by omega), u2_n _ _ _ (by omega)]) (by rw [u2_n _ _ _ (by omega), u2_n _ _ _ (by omega)]) (by rw [u2_n _ _ _ (by omega), u2_n _ _ _ (by omega)])) ?_ (fun a ha => by rw [u2_n _ _ _ (by omega), u2_n _ _ _ (by omega), f2.1 a (by omega) (by omega) (by omega) (by omega)]; exact hF a ha) (by rw [u2_n _ _ _ (by omega), u2_n _ _ _ (by omega)]; exact (f2.2 4 (by omega)).trans h4)
            rw [ent, est]
            refine GL.note (no := M1 241) (c := c0) (m := m) (s := s + k) hc0 hm ((ehi 5 (by omega)).trans q5) ((ehi 122 (by omega)).trans q122) ((ehi 123 (by omega)).trans q123) (fun j hj => by rw [ehi _ (by omega)]; exact g5 j hj) ?_ ?_ ?_
            · rw [u2_n _ _ _ (by omega), u2_s, f2.1 241 (by omega) (by omega) (by omega) (by omega)]
            · rw [u2_s, up_n _ _ (by omega), u2_n _ _ _ (by omega), f2.1 240 (by omega) (by omega) (by omega) (by omega)]
              exact g0
            · rw [u2_s, up_s]
              first
                | (rw [if_pos h558]; exact nI_1 m)
                | (rw [if_neg (by omega), show m = 60 by omega]; rfl)
          · refine wp_iconst (v := 1) dL_law_561 (by decide) ?_
            refine wp_goto (tgt := 566) dL_law_562 (by decide) ?_
            refine wp_iadd dL_law_566 ?_
            refine wp_iast (i := 1) rfl tA_240 (Nat.le_of_ble_eq_true rfl) (by rw [lA_240]; omega) (Nat.le_of_ble_eq_true rfl) dL_law_567 ?_
            refine wp_iinc (v := nI (k + 1)) (L' := [some (.ref 4), some (.ref 8), some (.ref 235), some (.ref 236), some (.ref 237), some (.ref 238), some (.ref 239), some (.ref 240), some (.ref 241), some (.ref 242), some (.ref 243), some (.ref 244), some (.ref 245), some (.ref 246), some (.int (nI t)), some (.int x), some (.int y), some (.int (nI kd)), some (.int (nI c)), some (.int (nI n)), some (.int _), some (.int (nI (k + 1))), none, none, none, none, none]) dL_law_568 (by decide) rfl (inc_1 _) rfl ?_
            refine wp_goto (tgt := 499) dL_law_571 (by decide) ?_
            refine nxt _ _ _ _ _ _ (l2.fr (fun j _ => by rw [u2_n _ _ _ (by omega), u2_n _ _ _ (by omega)]) (by rw [u2_n _ _ _ (by omega), u2_n _ _ _ (by omega)]) (by rw [u2_n _ _ _ (by omega), u2_n _ _ _ (by omega)]) (by rw [u2_n _ _ _ (by omega), u2_n _ _ _ (by omega)]) (by rw [u2_n _ _ _ (by omega), u2_n _ _ _ (by omega)])) ?_ (fun a ha => by rw [u2_n _ _ _ (by omega), u2_n _ _ _ (by omega), f2.1 a (by omega) (by omega) (by omega) (by omega)]; exact hF a ha) (by rw [u2_n _ _ _ (by omega), u2_n _ _ _ (by omega)]; exact (f2.2 4 (by omega)).trans h4)
            rw [ent, est]
            refine GL.note (no := M1 241) (c := c0) (m := m) (s := s + k) hc0 hm ((ehi 5 (by omega)).trans q5) ((ehi 122 (by omega)).trans q122) ((ehi 123 (by omega)).trans q123) (fun j hj => by rw [ehi _ (by omega)]; exact g5 j hj) ?_ ?_ ?_
            · rw [u2_n _ _ _ (by omega), u2_s, f2.1 241 (by omega) (by omega) (by omega) (by omega)]
            · rw [u2_s, up_n _ _ (by omega), u2_n _ _ _ (by omega), f2.1 240 (by omega) (by omega) (by omega) (by omega)]
              exact g0
            · rw [u2_s, up_s]
              first
                | (rw [if_pos h558]; exact nI_1 m)
                | (rw [if_neg (by omega), show m = 60 by omega]; rfl)
    refine wp_drop [some (.ref 4), some (.ref 8), some (.ref 235), some (.ref 236), some (.ref 237), some (.ref 238), some (.ref 239), some (.ref 240), some (.ref 241), some (.ref 242), some (.ref 243), some (.ref 244), some (.ref 245), some (.ref 246), some (.int (nI t)), some (.int x), some (.int y), some (.int (nI kd)), some (.int (nI c)), some (.int (nI n)), none, none, none, none, none, none, none] (by simp [leL]) ?_
    refine wp_iconst (v := 0) dL_law_493 (by decide) ?_
    refine wp_istore (L' := [some (.ref 4), some (.ref 8), some (.ref 235), some (.ref 236), some (.ref 237), some (.ref 238), some (.ref 239), some (.ref 240), some (.ref 241), some (.ref 242), some (.ref 243), some (.ref 244), some (.ref 245), some (.ref 246), some (.int (nI t)), some (.int x), some (.int y), some (.int (nI kd)), some (.int (nI c)), some (.int (nI n)), some (.int _), none, none, none, none, none, none]) dL_law_494 (by decide) rfl ?_
    refine wp_iconst (v := 0) dL_law_496 (by decide) ?_
    refine wp_istore (L' := [some (.ref 4), some (.ref 8), some (.ref 235), some (.ref 236), some (.ref 237), some (.ref 238), some (.ref 239), some (.ref 240), some (.ref 241), some (.ref 242), some (.ref 243), some (.ref 244), some (.ref 245), some (.ref 246), some (.int (nI t)), some (.int x), some (.int y), some (.int (nI kd)), some (.int (nI c)), some (.int (nI n)), some (.int _), some (.int _), none, none, none, none, none]) dL_law_497 (by decide) rfl ?_
    exact loop n 0 _ M _ _ _ _ _ (by omega) rfl hl hG (fun _ _ => rfl) hq4
  refine wp_drop [some (.ref 4), some (.ref 8), some (.ref 235), some (.ref 236), some (.ref 237), some (.ref 238), some (.ref 239), some (.ref 240), some (.ref 241), some (.ref 242), some (.ref 243), some (.ref 244), some (.ref 245), some (.ref 246), some (.int (nI t)), some (.int x), some (.int y), some (.int (nI kd)), some (.int (nI c)), none, none, none, none, none, none, none, none] (by simp [leL]) ?_
  refine wp_iconst (v := 1) dL_law_465 (by decide) ?_
  refine wp_iload dL_law_466 rfl ?_
  refine wp_iload dL_law_468 rfl ?_
  refine wp_bipush (v := 11) dL_law_470 (by decide) ?_
  refine wp_ishr dL_law_472 ?_
  refine wp_iconst (v := 3) dL_law_473 (by decide) ?_
  refine wp_cS2 (z := mL_low) (n' := 247) kL_47 dL_law_474 (Nat.le_of_ble_eq_true rfl) (Nat.le_of_ble_eq_true rfl) (Nat.le_of_ble_eq_true rfl) (Nat.le_refl _) (Nat.le_refl _) (s_lowX (n := 3) (by omega) (by decide) (fun e h_e => (wp_af ?_)))
  refine wp_ifN_ne (a := e) (tgt := 485) dL_law_477 (by decide) rfl (by omega) (fun h477 => ?_) (fun h477 => ?_)
  · refine wp_bipush (v := 12) dL_law_485 (by decide) ?_
    refine wp_cS2 (z := mL_low) (n' := 247) kL_47 dL_law_487 (Nat.le_of_ble_eq_true rfl) (Nat.le_of_ble_eq_true rfl) (Nat.le_of_ble_eq_true rfl) (Nat.le_refl _) (Nat.le_refl _) (s_lowX (n := 12) (by omega) (by decide) (fun g h_g => (wp_af ?_)))
    refine wp_iadd dL_law_490 ?_
    refine wp_top ((ix_add rfl rfl)) ?_
    refine wp_istore (L' := [some (.ref 4), some (.ref 8), some (.ref 235), some (.ref 236), some (.ref 237), some (.ref 238), some (.ref 239), some (.ref 240), some (.ref 241), some (.ref 242), some (.ref 243), some (.ref 244), some (.ref 245), some (.ref 246), some (.int (nI t)), some (.int x), some (.int y), some (.int (nI kd)), some (.int (nI c)), some (.int (nI (1 + g))), none, none, none, none, none, none, none]) dL_law_491 (by decide) rfl ?_
    exact s493 _ _ _ _ _ _ _ _ (by omega) (by omega)
  · refine wp_bipush (v := 99) dL_law_480 (by decide) ?_
    refine wp_goto (tgt := 487) dL_law_482 (by decide) ?_
    refine wp_cS2 (z := mL_low) (n' := 247) kL_47 dL_law_487 (Nat.le_of_ble_eq_true rfl) (Nat.le_of_ble_eq_true rfl) (Nat.le_of_ble_eq_true rfl) (Nat.le_refl _) (Nat.le_refl _) (s_lowX (n := 99) (by omega) (by decide) (fun g h_g => (wp_af ?_)))
    refine wp_iadd dL_law_490 ?_
    refine wp_top ((ix_add rfl rfl)) ?_
    refine wp_istore (L' := [some (.ref 4), some (.ref 8), some (.ref 235), some (.ref 236), some (.ref 237), some (.ref 238), some (.ref 239), some (.ref 240), some (.ref 241), some (.ref 242), some (.ref 243), some (.ref 244), some (.ref 245), some (.ref 246), some (.int (nI t)), some (.int x), some (.int y), some (.int (nI kd)), some (.int (nI c)), some (.int (nI (1 + g))), none, none, none, none, none, none, none]) dL_law_491 (by decide) rfl ?_
    exact s493 _ _ _ _ _ _ _ _ (by omega) (by omega)

theorem pk_m1k {k : Nat} (h : k < 1000) : (-1 : Int32) - nI k < 0 := by
  have e1 : ((-1 : Int32) - nI k).toInt = -1 - (k : Int) := by
    rw [sub_int (by rw [nI_toInt (by omega), show (-1 : Int32).toInt = -1 by decide]; omega) (by rw [nI_toInt (by omega), show (-1 : Int32).toInt = -1 by decide]; omega), nI_toInt (by omega), show (-1 : Int32).toInt = -1 by decide]
  rw [Int32.lt_iff_toInt_lt, e1, show (0 : Int32).toInt = 0 by decide]
  omega
set_option maxRecDepth 100000 in
set_option maxHeartbeats 4000000 in
theorem lk_229 {γ : Gm} {l : Launch} {M : Mm} {R : Rm} {K : KT} {x y : Int32} {sg tx F : Nat → Int32} {rc pl t kd c s : Nat} {hs S : Nat → Nat → Int32} {t23 t24 t25 t26 : Option Value} {s4 p f : Nat} {he : Int32} (hc : IC M R sg rc hs F S tx pl) (hl : LT M 234 238 (nP sg) sg) (hq4 : M 235 4 = nI (nP sg)) (hG : GL (M 240) (M 241) sg s) (hs3 : sg 3 = nI s) (hst : s ≤ 99 * t) (ht : t < 24) (hc36 : c < 36) (hs4 : s4 < 4) (hhe : -999 ≤ he ∧ he ≤ 999) (hp1 : 1 ≤ p) (hp2 : p ≤ 60) (hf : f < 60) (kk : ∀ M1 R1 (t19 t20 t21 t22 t23 t24 t25 t26 : Option Value), LawI M1 R1 (t + 1) → WP γ l mL_law 9 8 247 910 [some (.ref 4), some (.ref 8), some (.ref 235), some (.ref 236), some (.ref 237), some (.ref 238), some (.ref 239), some (.ref 240), some (.ref 241), some (.ref 242), some (.ref 243), some (.ref 244), some (.ref 245), some (.ref 246), some (.int (nI t)), some (.int x), some (.int y), some (.int (nI kd)), some (.int (nI c)), t19, t20, t21, t22, t23, t24, t25, t26] [] 247 M1 R1 K)  : WP γ l mL_law 9 8 247 229 [some (.ref 4), some (.ref 8), some (.ref 235), some (.ref 236), some (.ref 237), some (.ref 238), some (.ref 239), some (.ref 240), some (.ref 241), some (.ref 242), some (.ref 243), some (.ref 244), some (.ref 245), some (.ref 246), some (.int (nI t)), some (.int x), some (.int y), some (.int (nI kd)), some (.int (nI c)), some (.int (nI s4)), some (.int he), some (.int (nI p)), some (.int (nI f)), t23, t24, t25, t26] [] 247 M R K := by
  have h6 := hc.ok.p6
  have s370 : ∀ (M1 : Mm) (k np2 : Nat) (t24 t25 t26 : Option Value), k < 6 → np2 ≤ 6 → M1 238 c = nI (k + 1) → M1 235 4 = nI np2 → (∀ a, a < 235 → M1 a = M a) → (∀ i, i < 4 → M1 235 i = M 235 i) → M1 236 = M 236 → M1 237 = M 237 → M1 239 = M 239 → M1 240 = M 240 → M1 241 = M 241 → (∀ re2, (∀ i, i < 30 → (i < 5 * k ∨ 5 * k + 5 ≤ i) → re2 i = M 239 i) → (∀ j, j < 5 → re2 (5 * k + j) = nwP (nI c) (nI s4) he (nI p) (nI f) (j + 1)) → PL (M1 238) re2 np2 (puF sg (nP sg) (nI c) (nI s4) he (nI p) (nI f))) → ¬ whyP sg (nP sg) (nI c) (nI s4) he (nI p) (nI f) < 0 → (puF sg (nP sg) (nI c) (nI s4) he (nI p) (nI f)) 4 = nI np2 → WP γ l mL_law 9 8 247 370 [some (.ref 4), some (.ref 8), some (.ref 235), some (.ref 236), some (.ref 237), some (.ref 238), some (.ref 239), some (.ref 240), some (.ref 241), some (.ref 242), some (.ref 243), some (.ref 244), some (.ref 245), some (.ref 246), some (.int (nI t)), some (.int x), some (.int y), some (.int (nI kd)), some (.int (nI c)), some (.int (nI s4)), some (.int he), some (.int (nI p)), some (.int (nI f)), some (.int (nI 1)), t24, t25, t26] [] 247 M1 R K := by
    intro M1 k np2 t24 t25 t26 hk hn2 e238 e4 eF e235 e236 e237 e239 e240 e241 hpl hw hp4
    refine wp_drop [some (.ref 4), some (.ref 8), some (.ref 235), some (.ref 236), some (.ref 237), some (.ref 238), some (.ref 239), some (.ref 240), some (.ref 241), some (.ref 242), some (.ref 243), some (.ref 244), some (.ref 245), some (.ref 246), some (.int (nI t)), some (.int x), some (.int y), some (.int (nI kd)), some (.int (nI c)), some (.int (nI s4)), some (.int he), some (.int (nI p)), some (.int (nI f)), some (.int (nI 1)), none, none, none] (by simp [leL]) ?_
    refine wp_iconst (v := 5) dL_law_370 (by decide) ?_
    refine wp_aload dL_law_371 rfl ?_
    refine wp_iload dL_law_373 rfl ?_
    refine wp_iadn (i := c) (v := nI (k + 1)) rfl tA_238 (Nat.le_of_ble_eq_true rfl) (by rw [lA_238]; omega) (Nat.le_of_ble_eq_true rfl) dL_law_375 (e238) ?_
    refine wp_iconst (v := 1) dL_law_376 (by decide) ?_
    refine wp_isub dL_law_377 ?_
    refine wp_top (nI_pred k) ?_
    refine wp_imul dL_law_378 ?_
    refine wp_istore (L' := [some (.ref 4), some (.ref 8), some (.ref 235), some (.ref 236), some (.ref 237), some (.ref 238), some (.ref 239), some (.ref 240), some (.ref 241), some (.ref 242), some (.ref 243), some (.ref 244), some (.ref 245), some (.ref 246), some (.int (nI t)), some (.int x), some (.int y), some (.int (nI kd)), some (.int (nI c)), some (.int (nI s4)), some (.int he), some (.int (nI p)), some (.int (nI f)), some (.int _), none, some (.int _), none]) dL_law_379 (by decide) rfl ?_
    refine wp_aload dL_law_381 rfl ?_
    refine wp_iload dL_law_383 rfl ?_
    refine wp_iload dL_law_385 rfl ?_
    refine wp_iast (i := (5 * k)) (ix_mul rfl rfl) tA_239 (Nat.le_of_ble_eq_true rfl) (by rw [lA_239]; omega) (Nat.le_of_ble_eq_true rfl) dL_law_387 ?_
    refine wp_aload dL_law_388 rfl ?_
    refine wp_iload dL_law_390 rfl ?_
    refine wp_iconst (v := 1) dL_law_392 (by decide) ?_
    refine wp_iadd dL_law_393 ?_
    refine wp_iload dL_law_394 rfl ?_
    refine wp_iast (i := ((5 * k) + 1)) (ix_add (ix_mul rfl rfl) rfl) tA_239 (Nat.le_of_ble_eq_true rfl) (by rw [lA_239]; omega) (Nat.le_of_ble_eq_true rfl) dL_law_396 ?_
    refine wp_aload dL_law_397 rfl ?_
    refine wp_iload dL_law_399 rfl ?_
    refine wp_iconst (v := 2) dL_law_401 (by decide) ?_
    refine wp_iadd dL_law_402 ?_
    refine wp_iload dL_law_403 rfl ?_
    refine wp_iast (i := ((5 * k) + 2)) (ix_add (ix_mul rfl rfl) rfl) tA_239 (Nat.le_of_ble_eq_true rfl) (by rw [lA_239]; omega) (Nat.le_of_ble_eq_true rfl) dL_law_405 ?_
    refine wp_aload dL_law_406 rfl ?_
    refine wp_iload dL_law_408 rfl ?_
    refine wp_iconst (v := 3) dL_law_410 (by decide) ?_
    refine wp_iadd dL_law_411 ?_
    refine wp_iload dL_law_412 rfl ?_
    refine wp_iast (i := ((5 * k) + 3)) (ix_add (ix_mul rfl rfl) rfl) tA_239 (Nat.le_of_ble_eq_true rfl) (by rw [lA_239]; omega) (Nat.le_of_ble_eq_true rfl) dL_law_414 ?_
    refine wp_aload dL_law_415 rfl ?_
    refine wp_iload dL_law_417 rfl ?_
    refine wp_iconst (v := 4) dL_law_419 (by decide) ?_
    refine wp_iadd dL_law_420 ?_
    refine wp_iconst (v := 1) dL_law_421 (by decide) ?_
    refine wp_iast (i := ((5 * k) + 4)) (ix_add (ix_mul rfl rfl) rfl) tA_239 (Nat.le_of_ble_eq_true rfl) (by rw [lA_239]; omega) (Nat.le_of_ble_eq_true rfl) dL_law_422 ?_
    obtain ⟨MW, hMW⟩ : ∃ MW, MW = (u2 (u2 (u2 (u2 (u2 M1 239 (5 * k) (nI s4)) 239 ((5 * k) + 1) he) 239 ((5 * k) + 2) (nI p)) 239 ((5 * k) + 3) (nI f)) 239 ((5 * k) + 4) 1) := ⟨_, rfl⟩
    refine wp_mem hMW.symm ?_
    have hW1 : ∀ a, a ≠ 239 → MW a = M1 a := fun a ha => by rw [hMW, u2_n _ _ _ ha, u2_n _ _ _ ha, u2_n _ _ _ ha, u2_n _ _ _ ha, u2_n _ _ _ ha]
    have hWm : MW 239 = up (up (up (up (up (M1 239) (5 * k) (nI s4)) (5 * k + 1) he) (5 * k + 2) (nI p)) (5 * k + 3) (nI f)) (5 * k + 4) 1 := by rw [hMW, u2_s, u2_s, u2_s, u2_s, u2_s]
    have hW2 : ∀ i, i < 30 → (i < 5 * k ∨ 5 * k + 5 ≤ i) → MW 239 i = M 239 i := fun i _ hi => by rw [hWm, up_n _ _ (by omega), up_n _ _ (by omega), up_n _ _ (by omega), up_n _ _ (by omega), up_n _ _ (by omega), e239]
    have hW3 : ∀ j, j < 5 → MW 239 (5 * k + j) = nwP (nI c) (nI s4) he (nI p) (nI f) (j + 1) := fun j hj => by
      rw [hWm]
      rcases (by omega : j = 0 ∨ j = 1 ∨ j = 2 ∨ j = 3 ∨ j = 4) with h | h | h | h | h <;> subst h
      · rw [up_n _ _ (by omega), up_n _ _ (by omega), up_n _ _ (by omega), up_n _ _ (by omega), show 5 * k + 0 = 5 * k from rfl, up_s]; rfl
      · rw [up_n _ _ (by omega), up_n _ _ (by omega), up_n _ _ (by omega), up_s]; rfl
      · rw [up_n _ _ (by omega), up_n _ _ (by omega), up_s]; rfl
      · rw [up_n _ _ (by omega), up_s]; rfl
      · rw [up_s]; rfl
    have cW := hc.out (M1 := MW) (fun a ha => (hW1 a (by omega)).trans (eF a ha))
    refine wp_aload_n dL_law_423 rfl ?_
    refine wp_iload dL_law_424 rfl ?_
    refine wp_iload dL_law_426 rfl ?_
    refine wp_iload dL_law_428 rfl ?_
    refine wp_iload dL_law_430 rfl ?_
    refine wp_iload dL_law_432 rfl ?_
    refine wp_cV5 (z := mX5_paddle) (n' := 247) kL_73 dL_law_434 (Nat.le_of_ble_eq_true rfl) (Nat.le_of_ble_eq_true rfl) tA_8 (Nat.le_of_ble_eq_true rfl) (Nat.le_of_ble_eq_true rfl) (Nat.le_refl _) (Nat.le_refl _) (s_X5_paddle cW (fun hn => absurd hn hw) (fun _ M2 R2 c2 f2 => (wp_af ?_)))
    refine wp_top (z := nI np2) hp4 ?_
    refine wp_iload dL_law_437 rfl ?_
    refine wp_ifN_eq (a := 1) (tgt := 448) dL_law_439 (by decide) rfl (by omega) (fun h => absurd h (by decide)) (fun _ => ?_)
    refine wp_aload_n dL_law_442 rfl ?_
    refine wp_iconst (v := 4) dL_law_443 (by decide) ?_
    refine wp_iadn (i := 4) (v := nI np2) rfl tA_235 (Nat.le_of_ble_eq_true rfl) (by rw [lA_235]; omega) (Nat.le_of_ble_eq_true rfl) dL_law_444 ((congrFun (f2 235 (by omega)).1 4).trans ((congrFun (hW1 235 (by omega)) 4).trans e4)) ?_
    refine wp_goto (tgt := 450) dL_law_445 (by decide) ?_
    refine wp_icN_eq (a := np2) (b := np2) (tgt := 455) dL_law_450 (by decide) rfl rfl (by omega) (by omega) (fun h450 => ?_) (fun h450 => absurd rfl h450)
    refine wp_goto (tgt := 910) dL_law_455 (by decide) ?_
    have lo : ∀ j, j ≠ 4 → (j < 86 ∨ 122 ≤ j) → (puF sg (nP sg) (nI c) (nI s4) he (nI p) (nI f)) j = sg j := fun j h1 h2 => puF_lv hw h6 h1 h2
    have en : nP (puF sg (nP sg) (nI c) (nI s4) he (nI p) (nI f)) = np2 := by rw [nP, hp4, nI_clamp (by omega)]
    refine kk _ _ _ _ _ _ _ _ _ _ (LawI.of c2 ?_ ?_ ?_ ((lo 3 (by omega) (by omega)).trans hs3) (by omega))
    · rw [en]
      refine ⟨fun i hi => ?_, fun e he2 => ?_, fun e he2 => ?_, ?_⟩
      · rw [(f2 (234 + 1) (by omega)).1, hW1 235 (by omega), e235 i hi, lo i (by omega) (by omega)]
        exact hl.1 i hi
      · rw [(f2 (234 + 2) (by omega)).1, hW1 236 (by omega), e236, lo _ (by omega) (by omega)]
        exact hl.2.1 e he2
      · rw [(f2 (234 + 3) (by omega)).1, hW1 237 (by omega), e237, lo _ (by omega) (by omega)]
        exact hl.2.2.1 e he2
      · rw [(f2 238 (by omega)).1, (f2 (234 + 5) (by omega)).1, hW1 238 (by omega)]
        exact hpl _ hW2 hW3
    · rw [en, (f2 235 (by omega)).1, hW1 235 (by omega)]
      exact e4
    · rw [(f2 240 (by omega)).1, (f2 241 (by omega)).1, hW1 240 (by omega), hW1 241 (by omega), e240, e241]
      exact hG.cong (lo 5 (by omega) (by omega)) fun j _ _ => lo j (by omega) (by omega)
  rcases hl.pl.at hc36 with hz | ⟨k, hk, hp⟩
  · have rn := rk_no hl.pl (c := c) (by omega) (fun _ => hz)
    by_cases h66 : nP sg = 6
    · have hwy := wy_no (sg := sg) (np := nP sg) (he := he) hc36 hs4 hhe hp1 hp2 hf ⟨rn, h66⟩
      refine wp_drop [some (.ref 4), some (.ref 8), some (.ref 235), some (.ref 236), some (.ref 237), some (.ref 238), some (.ref 239), some (.ref 240), some (.ref 241), some (.ref 242), some (.ref 243), some (.ref 244), some (.ref 245), some (.ref 246), some (.int (nI t)), some (.int x), some (.int y), some (.int (nI kd)), some (.int (nI c)), some (.int (nI s4)), some (.int he), some (.int (nI p)), some (.int (nI f)), none, none, none, none] (by simp [leL]) ?_
      refine wp_aload dL_law_229 rfl ?_
      refine wp_iload dL_law_231 rfl ?_
      refine wp_iadn (i := c) (v := nI 0) rfl tA_238 (Nat.le_of_ble_eq_true rfl) (by rw [lA_238]; omega) (Nat.le_of_ble_eq_true rfl) dL_law_233 (hz) ?_
      refine wp_ifN_gt (a := 0) (tgt := 245) dL_law_234 (by decide) rfl (by omega) (fun h => absurd h (by decide)) (fun _ => ?_)
      refine wp_aload_n dL_law_237 rfl ?_
      refine wp_iconst (v := 4) dL_law_238 (by decide) ?_
      refine wp_iadn (i := 4) (v := nI (nP sg)) rfl tA_235 (Nat.le_of_ble_eq_true rfl) (by rw [lA_235]; omega) (Nat.le_of_ble_eq_true rfl) dL_law_239 (hq4) ?_
      refine wp_bipush (v := 6) dL_law_240 (by decide) ?_
      refine wp_icN_ge (a := (nP sg)) (b := 6) (tgt := 249) dL_law_242 (by decide) rfl rfl (by omega) (by omega) (fun h242 => ?_) (fun h242 => absurd h242 (by omega))
      refine wp_iconst (v := 0) dL_law_249 (by decide) ?_
      refine wp_istore (L' := [some (.ref 4), some (.ref 8), some (.ref 235), some (.ref 236), some (.ref 237), some (.ref 238), some (.ref 239), some (.ref 240), some (.ref 241), some (.ref 242), some (.ref 243), some (.ref 244), some (.ref 245), some (.ref 246), some (.int (nI t)), some (.int x), some (.int y), some (.int (nI kd)), some (.int (nI c)), some (.int (nI s4)), some (.int he), some (.int (nI p)), some (.int (nI f)), some (.int _), none, none, none]) dL_law_250 (by decide) rfl ?_
      refine wp_iconst (v := 0) dL_law_252 (by decide) ?_
      refine wp_istore (L' := [some (.ref 4), some (.ref 8), some (.ref 235), some (.ref 236), some (.ref 237), some (.ref 238), some (.ref 239), some (.ref 240), some (.ref 241), some (.ref 242), some (.ref 243), some (.ref 244), some (.ref 245), some (.ref 246), some (.int (nI t)), some (.int x), some (.int y), some (.int (nI kd)), some (.int (nI c)), some (.int (nI s4)), some (.int he), some (.int (nI p)), some (.int (nI f)), some (.int _), some (.int _), none, none]) dL_law_253 (by decide) rfl ?_
      refine wp_aload dL_law_255 rfl ?_
      refine wp_iload dL_law_257 rfl ?_
      refine wp_iadn (i := c) (v := nI 0) rfl tA_238 (Nat.le_of_ble_eq_true rfl) (by rw [lA_238]; omega) (Nat.le_of_ble_eq_true rfl) dL_law_259 (hz) ?_
      refine wp_ifN_ne (a := 0) (tgt := 337) dL_law_260 (by decide) rfl (by omega) (fun h => absurd h (by decide)) (fun _ => ?_)
      refine wp_iload dL_law_263 rfl ?_
      refine wp_ifN_eq (a := 0) (tgt := 337) dL_law_265 (by decide) rfl (by omega) (fun _ => ?_) (fun h => absurd h (by decide))
      refine wp_aload dL_law_337 rfl ?_
      refine wp_iload dL_law_339 rfl ?_
      refine wp_iadn (i := c) (v := nI 0) rfl tA_238 (Nat.le_of_ble_eq_true rfl) (by rw [lA_238]; omega) (Nat.le_of_ble_eq_true rfl) dL_law_341 (hz) ?_
      refine wp_ifN_ne (a := 0) (tgt := 365) dL_law_342 (by decide) rfl (by omega) (fun h => absurd h (by decide)) (fun _ => ?_)
      refine wp_iload dL_law_345 rfl ?_
      refine wp_ifN_eq (a := 0) (tgt := 365) dL_law_347 (by decide) rfl (by omega) (fun _ => ?_) (fun h => absurd h (by decide))
      refine wp_iload dL_law_365 rfl ?_
      refine wp_ifN_eq (a := 0) (tgt := 423) dL_law_367 (by decide) rfl (by omega) (fun _ => ?_) (fun h => absurd h (by decide))
      refine wp_aload_n dL_law_423 rfl ?_
      refine wp_iload dL_law_424 rfl ?_
      refine wp_iload dL_law_426 rfl ?_
      refine wp_iload dL_law_428 rfl ?_
      refine wp_iload dL_law_430 rfl ?_
      refine wp_iload dL_law_432 rfl ?_
      refine wp_cV5 (z := mX5_paddle) (n' := 247) kL_73 dL_law_434 (Nat.le_of_ble_eq_true rfl) (Nat.le_of_ble_eq_true rfl) tA_8 (Nat.le_of_ble_eq_true rfl) (Nat.le_of_ble_eq_true rfl) (Nat.le_refl _) (Nat.le_refl _) (s_X5_paddle hc (fun _ M1 c1 f1 => (wp_af ?_)) (fun hn => absurd (by rw [hwy]; decide) hn))
      refine wp_top (z := -4) hwy ?_
      refine wp_iload dL_law_437 rfl ?_
      refine wp_ifN_eq (a := 0) (tgt := 448) dL_law_439 (by decide) rfl (by omega) (fun _ => ?_) (fun h => absurd h (by decide))
      refine wp_bipush (v := (-4)) dL_law_448 (by decide) ?_
      refine wp_icmp_eq (tgt := 455) dL_law_450 (by decide) (fun h450 => ?_) (fun h450 => absurd rfl h450)
      refine wp_goto (tgt := 910) dL_law_455 (by decide) ?_
      exact kk _ _ _ _ _ _ _ _ _ _ (LawI.of c1 (hl.fr (fun j _ => by rw [(f1 235 (by omega)).1]) (f1 236 (by omega)).1 (f1 237 (by omega)).1 (f1 238 (by omega)).1 (f1 239 (by omega)).1) (by rw [(f1 235 (by omega)).1]; exact hq4) (by rw [(f1 240 (by omega)).1, (f1 241 (by omega)).1]; exact hG) hs3 (by omega))
    · have h5 : nP sg ≤ 5 := by omega
      have hwy := wy_ok (sg := sg) (np := nP sg) (he := he) hc36 hs4 hhe hp1 hp2 hf (fun h => h66 h.2)
      have epu : (puF sg (nP sg) (nI c) (nI s4) he (nI p) (nI f)) = inF sg (nP sg) (nI c) (nI s4) he (nI p) (nI f) := by rw [puF, if_pos rn]
      have s337 : ∀ (k : Nat) (v24 : Int32) (t25 t26 : Option Value), k < 6 → v24 = -1 - nI k → (∀ i, i < 36 → ¬ M 238 i = nI (k + 1)) → WP γ l mL_law 9 8 247 337 [some (.ref 4), some (.ref 8), some (.ref 235), some (.ref 236), some (.ref 237), some (.ref 238), some (.ref 239), some (.ref 240), some (.ref 241), some (.ref 242), some (.ref 243), some (.ref 244), some (.ref 245), some (.ref 246), some (.int (nI t)), some (.int x), some (.int y), some (.int (nI kd)), some (.int (nI c)), some (.int (nI s4)), some (.int he), some (.int (nI p)), some (.int (nI f)), some (.int (nI 1)), some (.int v24), t25, t26] [] 247 M R K := by
        intro k v24 t25 t26 hk hv hfree
        refine wp_drop [some (.ref 4), some (.ref 8), some (.ref 235), some (.ref 236), some (.ref 237), some (.ref 238), some (.ref 239), some (.ref 240), some (.ref 241), some (.ref 242), some (.ref 243), some (.ref 244), some (.ref 245), some (.ref 246), some (.int (nI t)), some (.int x), some (.int y), some (.int (nI kd)), some (.int (nI c)), some (.int (nI s4)), some (.int he), some (.int (nI p)), some (.int (nI f)), some (.int (nI 1)), some (.int v24), none, none] (by simp [leL]) ?_
        refine wp_aload dL_law_337 rfl ?_
        refine wp_iload dL_law_339 rfl ?_
        refine wp_iadn (i := c) (v := nI 0) rfl tA_238 (Nat.le_of_ble_eq_true rfl) (by rw [lA_238]; omega) (Nat.le_of_ble_eq_true rfl) dL_law_341 (hz) ?_
        refine wp_ifN_ne (a := 0) (tgt := 365) dL_law_342 (by decide) rfl (by omega) (fun h => absurd h (by decide)) (fun _ => ?_)
        refine wp_iload dL_law_345 rfl ?_
        refine wp_ifN_eq (a := 1) (tgt := 365) dL_law_347 (by decide) rfl (by omega) (fun h => absurd h (by decide)) (fun _ => ?_)
        refine wp_aload dL_law_350 rfl ?_
        refine wp_iload dL_law_352 rfl ?_
        refine wp_iload dL_law_354 rfl ?_
        refine wp_ineg dL_law_356 ?_
        refine wp_top (z := nI (k + 1)) (by rw [hv]; exact neg_k k) ?_
        refine wp_iast (i := c) rfl tA_238 (Nat.le_of_ble_eq_true rfl) (by rw [lA_238]; omega) (Nat.le_of_ble_eq_true rfl) dL_law_357 ?_
        refine wp_aload_n dL_law_358 rfl ?_
        refine wp_iconst (v := 4) dL_law_359 (by decide) ?_
        refine wp_dup2 dL_law_360 rfl rfl ?_
        refine wp_iadn (i := 4) (v := nI (nP sg)) rfl tA_235 (Nat.le_of_ble_eq_true rfl) (by rw [lA_235]; omega) (Nat.le_of_ble_eq_true rfl) dL_law_361 ((congrFun (u2_n _ _ _ (by omega)) 4).trans hq4) ?_
        refine wp_iconst (v := 1) dL_law_362 (by decide) ?_
        refine wp_iadd dL_law_363 ?_
        refine wp_iast (i := 4) rfl tA_235 (Nat.le_of_ble_eq_true rfl) (by rw [lA_235]; omega) (Nat.le_of_ble_eq_true rfl) dL_law_364 ?_
        refine wp_iload dL_law_365 rfl ?_
        refine wp_ifN_eq (a := 1) (tgt := 423) dL_law_367 (by decide) rfl (by omega) (fun h => absurd h (by decide)) (fun _ => ?_)
        refine s370 _ k (nP sg + 1) _ _ _ hk (by omega) ?_ ?_ (fun a ha => by rw [u2_n _ _ _ (by omega), u2_n _ _ _ (by omega)]) (fun i hi => by rw [u2_s, up_n _ _ (by omega), u2_n _ _ _ (by omega)]) (by rw [u2_n _ _ _ (by omega), u2_n _ _ _ (by omega)]) (by rw [u2_n _ _ _ (by omega), u2_n _ _ _ (by omega)]) (by rw [u2_n _ _ _ (by omega), u2_n _ _ _ (by omega)]) (by rw [u2_n _ _ _ (by omega), u2_n _ _ _ (by omega)]) (by rw [u2_n _ _ _ (by omega), u2_n _ _ _ (by omega)]) (fun re2 h1 h2 => ?_) (by rw [hwy]; decide) (by rw [epu, inF_4])
        · rw [u2_n _ _ _ (by omega), u2_s, up_s]
        · rw [u2_s, up_s, nI_1]
        · rw [u2_n _ _ _ (by omega), u2_s, epu]
          exact hl.pl.put hz hc36 hk hfree h1 h2
      have outer : ∀ (q k : Nat) (t25 t26 : Option Value), q + k = 6 → (∀ j, j < k → ∃ i, i < 36 ∧ M 238 i = nI (j + 1)) → WP γ l mL_law 9 8 247 255 [some (.ref 4), some (.ref 8), some (.ref 235), some (.ref 236), some (.ref 237), some (.ref 238), some (.ref 239), some (.ref 240), some (.ref 241), some (.ref 242), some (.ref 243), some (.ref 244), some (.ref 245), some (.ref 246), some (.int (nI t)), some (.int x), some (.int y), some (.int (nI kd)), some (.int (nI c)), some (.int (nI s4)), some (.int he), some (.int (nI p)), some (.int (nI f)), some (.int (nI 1)), some (.int (nI k)), t25, t26] [] 247 M R K := by
        intro q
        induction q with
        | zero =>
          intro k t25 t26 hq ha
          exact (hl.pl.free h5 fun j hj => ha j (by omega)).elim
        | succ q ih =>
          intro k t25 t26 hq ha
          have inner : ∀ (q e : Nat) (v25 : Int32), q + e = 36 → TI (M 238) k e v25 → WP γ l mL_law 9 8 247 279 [some (.ref 4), some (.ref 8), some (.ref 235), some (.ref 236), some (.ref 237), some (.ref 238), some (.ref 239), some (.ref 240), some (.ref 241), some (.ref 242), some (.ref 243), some (.ref 244), some (.ref 245), some (.ref 246), some (.int (nI t)), some (.int x), some (.int y), some (.int (nI kd)), some (.int (nI c)), some (.int (nI s4)), some (.int he), some (.int (nI p)), some (.int (nI f)), some (.int (nI 1)), some (.int (nI k)), some (.int v25), some (.int (nI e))] [] 247 M R K := by
            intro q2
            induction q2 with
            | zero =>
              intro e v25 hq2 hi
              obtain rfl : e = 36 := by omega
              refine wp_iload dL_law_279 rfl ?_
              refine wp_bipush (v := 36) dL_law_281 (by decide) ?_
              refine wp_icN_ge (a := 36) (b := 36) (tgt := 316) dL_law_283 (by decide) rfl rfl (by omega) (by omega) (fun _ => ?_) (fun h => absurd h (by decide))
              refine wp_iload dL_law_316 rfl ?_
              refine wp_if_eq (tgt := 328) dL_law_318 (by decide) (fun h318 => ?_) (fun h318 => ?_)
              · refine wp_iconst (v := (-1)) dL_law_328 (by decide) ?_
                refine wp_iload dL_law_329 rfl ?_
                refine wp_isub dL_law_331 ?_
                refine wp_istore (L' := [some (.ref 4), some (.ref 8), some (.ref 235), some (.ref 236), some (.ref 237), some (.ref 238), some (.ref 239), some (.ref 240), some (.ref 241), some (.ref 242), some (.ref 243), some (.ref 244), some (.ref 245), some (.ref 246), some (.int (nI t)), some (.int x), some (.int y), some (.int (nI kd)), some (.int (nI c)), some (.int (nI s4)), some (.int he), some (.int (nI p)), some (.int (nI f)), some (.int _), some (.int _), some (.int v25), some (.int _)]) dL_law_332 (by decide) rfl ?_
                refine wp_goto (tgt := 255) dL_law_334 (by decide) ?_
                refine wp_aload dL_law_255 rfl ?_
                refine wp_iload dL_law_257 rfl ?_
                refine wp_iadn (i := c) (v := nI 0) rfl tA_238 (Nat.le_of_ble_eq_true rfl) (by rw [lA_238]; omega) (Nat.le_of_ble_eq_true rfl) dL_law_259 (hz) ?_
                refine wp_ifN_ne (a := 0) (tgt := 337) dL_law_260 (by decide) rfl (by omega) (fun h => absurd h (by decide)) (fun _ => ?_)
                refine wp_iload dL_law_263 rfl ?_
                refine wp_ifN_eq (a := 1) (tgt := 337) dL_law_265 (by decide) rfl (by omega) (fun h => absurd h (by decide)) (fun _ => ?_)
                refine wp_iload dL_law_268 rfl ?_
                refine wp_if_lt (tgt := 337) dL_law_270 (by decide) (fun h270 => ?_) (fun h270 => absurd (show (-1 : Int32) - nI k < 0 from pk_m1k (by omega)) h270)
                exact s337 k _ _ _ (by omega) rfl (fun i hi2 => hi.elim (fun h => absurd h318 h.1) (fun h => h.2 i hi2))
              · refine wp_iload dL_law_321 rfl ?_
                refine wp_iconst (v := 1) dL_law_323 (by decide) ?_
                refine wp_iadd dL_law_324 ?_
                refine wp_goto (tgt := 332) dL_law_325 (by decide) ?_
                refine wp_top ((ix_add rfl rfl)) ?_
                refine wp_istore (L' := [some (.ref 4), some (.ref 8), some (.ref 235), some (.ref 236), some (.ref 237), some (.ref 238), some (.ref 239), some (.ref 240), some (.ref 241), some (.ref 242), some (.ref 243), some (.ref 244), some (.ref 245), some (.ref 246), some (.int (nI t)), some (.int x), some (.int y), some (.int (nI kd)), some (.int (nI c)), some (.int (nI s4)), some (.int he), some (.int (nI p)), some (.int (nI f)), some (.int _), some (.int (nI (k + 1))), some (.int v25), some (.int _)]) dL_law_332 (by decide) rfl ?_
                refine wp_goto (tgt := 255) dL_law_334 (by decide) ?_
                obtain ⟨e, h1, h2⟩ := hi.elim (fun h => h.2) (fun h => absurd h.1 h318)
                refine ih (k + 1) _ _ (by omega) fun j hj => ?_
                by_cases g : j = k
                · rw [g]
                  exact ⟨e, h1, h2⟩
                · exact ha j (by omega)
            | succ q2 ih2 =>
              intro e v25 hq2 hi
              refine wp_iload dL_law_279 rfl ?_
              refine wp_bipush (v := 36) dL_law_281 (by decide) ?_
              refine wp_icN_ge (a := e) (b := 36) (tgt := 316) dL_law_283 (by decide) rfl rfl (by omega) (by omega) (fun h283 => absurd h283 (by omega)) (fun h283 => ?_)
              refine wp_iload dL_law_286 rfl ?_
              refine wp_if_ne (tgt := 303) dL_law_288 (by decide) (fun h288 => ?_) (fun h288 => ?_)
              · refine wp_iconst (v := 1) dL_law_303 (by decide) ?_
                refine wp_goto (tgt := 308) dL_law_304 (by decide) ?_
                refine wp_istore (L' := [some (.ref 4), some (.ref 8), some (.ref 235), some (.ref 236), some (.ref 237), some (.ref 238), some (.ref 239), some (.ref 240), some (.ref 241), some (.ref 242), some (.ref 243), some (.ref 244), some (.ref 245), some (.ref 246), some (.int (nI t)), some (.int x), some (.int y), some (.int (nI kd)), some (.int (nI c)), some (.int (nI s4)), some (.int he), some (.int (nI p)), some (.int (nI f)), some (.int _), some (.int (nI k)), some (.int _), some (.int (nI e))]) dL_law_308 (by decide) rfl ?_
                refine wp_iinc (v := nI (e + 1)) (L' := [some (.ref 4), some (.ref 8), some (.ref 235), some (.ref 236), some (.ref 237), some (.ref 238), some (.ref 239), some (.ref 240), some (.ref 241), some (.ref 242), some (.ref 243), some (.ref 244), some (.ref 245), some (.ref 246), some (.int (nI t)), some (.int x), some (.int y), some (.int (nI kd)), some (.int (nI c)), some (.int (nI s4)), some (.int he), some (.int (nI p)), some (.int (nI f)), some (.int _), some (.int (nI k)), some (.int _), some (.int (nI (e + 1)))]) dL_law_310 (by decide) rfl (inc_1 _) rfl ?_
                refine wp_goto (tgt := 279) dL_law_313 (by decide) ?_
                exact ih2 (e + 1) _ (by omega) (by
                  first
                    | exact hi.o h288
                    | exact TI.n h300
                    | exact hi.z h288 h300)
              · refine wp_aload dL_law_291 rfl ?_
                refine wp_iload dL_law_293 rfl ?_
                refine wp_iadn (i := e) rfl tA_238 (Nat.le_of_ble_eq_true rfl) (by rw [lA_238]; omega) (Nat.le_of_ble_eq_true rfl) dL_law_295 (rfl) ?_
                refine wp_iload dL_law_296 rfl ?_
                refine wp_iconst (v := 1) dL_law_298 (by decide) ?_
                refine wp_iadd dL_law_299 ?_
                refine wp_icmp_ne (tgt := 307) dL_law_300 (by decide) (fun h300 => ?_) (fun h300 => ?_)
                · refine wp_iconst (v := 0) dL_law_307 (by decide) ?_
                  refine wp_istore (L' := [some (.ref 4), some (.ref 8), some (.ref 235), some (.ref 236), some (.ref 237), some (.ref 238), some (.ref 239), some (.ref 240), some (.ref 241), some (.ref 242), some (.ref 243), some (.ref 244), some (.ref 245), some (.ref 246), some (.int (nI t)), some (.int x), some (.int y), some (.int (nI kd)), some (.int (nI c)), some (.int (nI s4)), some (.int he), some (.int (nI p)), some (.int (nI f)), some (.int _), some (.int (nI k)), some (.int _), some (.int (nI e))]) dL_law_308 (by decide) rfl ?_
                  refine wp_iinc (v := nI (e + 1)) (L' := [some (.ref 4), some (.ref 8), some (.ref 235), some (.ref 236), some (.ref 237), some (.ref 238), some (.ref 239), some (.ref 240), some (.ref 241), some (.ref 242), some (.ref 243), some (.ref 244), some (.ref 245), some (.ref 246), some (.int (nI t)), some (.int x), some (.int y), some (.int (nI kd)), some (.int (nI c)), some (.int (nI s4)), some (.int he), some (.int (nI p)), some (.int (nI f)), some (.int _), some (.int (nI k)), some (.int _), some (.int (nI (e + 1)))]) dL_law_310 (by decide) rfl (inc_1 _) rfl ?_
                  refine wp_goto (tgt := 279) dL_law_313 (by decide) ?_
                  exact ih2 (e + 1) _ (by omega) (by
                    first
                      | exact hi.o h288
                      | exact TI.n h300
                      | exact hi.z h288 h300)
                · refine wp_iconst (v := 1) dL_law_303 (by decide) ?_
                  refine wp_goto (tgt := 308) dL_law_304 (by decide) ?_
                  refine wp_istore (L' := [some (.ref 4), some (.ref 8), some (.ref 235), some (.ref 236), some (.ref 237), some (.ref 238), some (.ref 239), some (.ref 240), some (.ref 241), some (.ref 242), some (.ref 243), some (.ref 244), some (.ref 245), some (.ref 246), some (.int (nI t)), some (.int x), some (.int y), some (.int (nI kd)), some (.int (nI c)), some (.int (nI s4)), some (.int he), some (.int (nI p)), some (.int (nI f)), some (.int _), some (.int (nI k)), some (.int _), some (.int (nI e))]) dL_law_308 (by decide) rfl ?_
                  refine wp_iinc (v := nI (e + 1)) (L' := [some (.ref 4), some (.ref 8), some (.ref 235), some (.ref 236), some (.ref 237), some (.ref 238), some (.ref 239), some (.ref 240), some (.ref 241), some (.ref 242), some (.ref 243), some (.ref 244), some (.ref 245), some (.ref 246), some (.int (nI t)), some (.int x), some (.int y), some (.int (nI kd)), some (.int (nI c)), some (.int (nI s4)), some (.int he), some (.int (nI p)), some (.int (nI f)), some (.int _), some (.int (nI k)), some (.int _), some (.int (nI (e + 1)))]) dL_law_310 (by decide) rfl (inc_1 _) rfl ?_
                  refine wp_goto (tgt := 279) dL_law_313 (by decide) ?_
                  exact ih2 (e + 1) _ (by omega) (by
                    first
                      | exact hi.o h288
                      | exact TI.n h300
                      | exact hi.z h288 h300)
          refine wp_drop [some (.ref 4), some (.ref 8), some (.ref 235), some (.ref 236), some (.ref 237), some (.ref 238), some (.ref 239), some (.ref 240), some (.ref 241), some (.ref 242), some (.ref 243), some (.ref 244), some (.ref 245), some (.ref 246), some (.int (nI t)), some (.int x), some (.int y), some (.int (nI kd)), some (.int (nI c)), some (.int (nI s4)), some (.int he), some (.int (nI p)), some (.int (nI f)), some (.int (nI 1)), some (.int (nI k)), none, none] (by simp [leL]) ?_
          refine wp_aload dL_law_255 rfl ?_
          refine wp_iload dL_law_257 rfl ?_
          refine wp_iadn (i := c) (v := nI 0) rfl tA_238 (Nat.le_of_ble_eq_true rfl) (by rw [lA_238]; omega) (Nat.le_of_ble_eq_true rfl) dL_law_259 (hz) ?_
          refine wp_ifN_ne (a := 0) (tgt := 337) dL_law_260 (by decide) rfl (by omega) (fun h => absurd h (by decide)) (fun _ => ?_)
          refine wp_iload dL_law_263 rfl ?_
          refine wp_ifN_eq (a := 1) (tgt := 337) dL_law_265 (by decide) rfl (by omega) (fun h => absurd h (by decide)) (fun _ => ?_)
          refine wp_iload dL_law_268 rfl ?_
          refine wp_ifN_lt (a := k) (tgt := 337) dL_law_270 (by decide) rfl (by omega) ?_
          refine wp_iconst (v := 0) dL_law_273 (by decide) ?_
          refine wp_istore (L' := [some (.ref 4), some (.ref 8), some (.ref 235), some (.ref 236), some (.ref 237), some (.ref 238), some (.ref 239), some (.ref 240), some (.ref 241), some (.ref 242), some (.ref 243), some (.ref 244), some (.ref 245), some (.ref 246), some (.int (nI t)), some (.int x), some (.int y), some (.int (nI kd)), some (.int (nI c)), some (.int (nI s4)), some (.int he), some (.int (nI p)), some (.int (nI f)), some (.int _), some (.int (nI k)), some (.int _), none]) dL_law_274 (by decide) rfl ?_
          refine wp_iconst (v := 0) dL_law_276 (by decide) ?_
          refine wp_istore (L' := [some (.ref 4), some (.ref 8), some (.ref 235), some (.ref 236), some (.ref 237), some (.ref 238), some (.ref 239), some (.ref 240), some (.ref 241), some (.ref 242), some (.ref 243), some (.ref 244), some (.ref 245), some (.ref 246), some (.int (nI t)), some (.int x), some (.int y), some (.int (nI kd)), some (.int (nI c)), some (.int (nI s4)), some (.int he), some (.int (nI p)), some (.int (nI f)), some (.int _), some (.int (nI k)), some (.int _), some (.int _)]) dL_law_277 (by decide) rfl ?_
          exact inner 36 0 _ (by omega) (Or.inr ⟨rfl, fun e he => absurd he (by omega)⟩)
      refine wp_drop [some (.ref 4), some (.ref 8), some (.ref 235), some (.ref 236), some (.ref 237), some (.ref 238), some (.ref 239), some (.ref 240), some (.ref 241), some (.ref 242), some (.ref 243), some (.ref 244), some (.ref 245), some (.ref 246), some (.int (nI t)), some (.int x), some (.int y), some (.int (nI kd)), some (.int (nI c)), some (.int (nI s4)), some (.int he), some (.int (nI p)), some (.int (nI f)), none, none, none, none] (by simp [leL]) ?_
      refine wp_aload dL_law_229 rfl ?_
      refine wp_iload dL_law_231 rfl ?_
      refine wp_iadn (i := c) (v := nI 0) rfl tA_238 (Nat.le_of_ble_eq_true rfl) (by rw [lA_238]; omega) (Nat.le_of_ble_eq_true rfl) dL_law_233 (hz) ?_
      refine wp_ifN_gt (a := 0) (tgt := 245) dL_law_234 (by decide) rfl (by omega) (fun h => absurd h (by decide)) (fun _ => ?_)
      refine wp_aload_n dL_law_237 rfl ?_
      refine wp_iconst (v := 4) dL_law_238 (by decide) ?_
      refine wp_iadn (i := 4) (v := nI (nP sg)) rfl tA_235 (Nat.le_of_ble_eq_true rfl) (by rw [lA_235]; omega) (Nat.le_of_ble_eq_true rfl) dL_law_239 (hq4) ?_
      refine wp_bipush (v := 6) dL_law_240 (by decide) ?_
      refine wp_icN_ge (a := (nP sg)) (b := 6) (tgt := 249) dL_law_242 (by decide) rfl rfl (by omega) (by omega) (fun h242 => absurd h242 (by omega)) (fun h242 => ?_)
      refine wp_iconst (v := 1) dL_law_245 (by decide) ?_
      refine wp_goto (tgt := 250) dL_law_246 (by decide) ?_
      refine wp_istore (L' := [some (.ref 4), some (.ref 8), some (.ref 235), some (.ref 236), some (.ref 237), some (.ref 238), some (.ref 239), some (.ref 240), some (.ref 241), some (.ref 242), some (.ref 243), some (.ref 244), some (.ref 245), some (.ref 246), some (.int (nI t)), some (.int x), some (.int y), some (.int (nI kd)), some (.int (nI c)), some (.int (nI s4)), some (.int he), some (.int (nI p)), some (.int (nI f)), some (.int _), none, none, none]) dL_law_250 (by decide) rfl ?_
      refine wp_iconst (v := 0) dL_law_252 (by decide) ?_
      refine wp_istore (L' := [some (.ref 4), some (.ref 8), some (.ref 235), some (.ref 236), some (.ref 237), some (.ref 238), some (.ref 239), some (.ref 240), some (.ref 241), some (.ref 242), some (.ref 243), some (.ref 244), some (.ref 245), some (.ref 246), some (.int (nI t)), some (.int x), some (.int y), some (.int (nI kd)), some (.int (nI c)), some (.int (nI s4)), some (.int he), some (.int (nI p)), some (.int (nI f)), some (.int _), some (.int _), none, none]) dL_law_253 (by decide) rfl ?_
      exact outer 6 0 _ _ rfl (fun j hj => absurd hj (by omega))
  · have n0 : ¬ M 238 c = 0 := by rw [hp]; exact nI_s0 (by omega)
    have rn := rk_at hl.pl h6 hc36 n0
    have hlt := hl.pl.lt hc36 n0
    have hne : ¬ rkU sg (nI c) (nP sg) = -6 := by rw [rn]; exact nI_m6 (by omega)
    have hwy := wy_ok (sg := sg) (np := nP sg) (he := he) hc36 hs4 hhe hp1 hp2 hf (fun h => hne h.1)
    have hpi := puF_in (c := nI c) (so := nI s4) (he := he) (pe := nI p) (f := nI f) hc.ok.1 hlt rn
    refine wp_drop [some (.ref 4), some (.ref 8), some (.ref 235), some (.ref 236), some (.ref 237), some (.ref 238), some (.ref 239), some (.ref 240), some (.ref 241), some (.ref 242), some (.ref 243), some (.ref 244), some (.ref 245), some (.ref 246), some (.int (nI t)), some (.int x), some (.int y), some (.int (nI kd)), some (.int (nI c)), some (.int (nI s4)), some (.int he), some (.int (nI p)), some (.int (nI f)), none, none, none, none] (by simp [leL]) ?_
    refine wp_aload dL_law_229 rfl ?_
    refine wp_iload dL_law_231 rfl ?_
    refine wp_iadn (i := c) (v := nI (k + 1)) rfl tA_238 (Nat.le_of_ble_eq_true rfl) (by rw [lA_238]; omega) (Nat.le_of_ble_eq_true rfl) dL_law_233 (hp) ?_
    refine wp_ifN_gt (a := (k + 1)) (tgt := 245) dL_law_234 (by decide) rfl (by omega) (fun h234 => ?_) (fun h234 => absurd h234 (by omega))
    refine wp_iconst (v := 1) dL_law_245 (by decide) ?_
    refine wp_goto (tgt := 250) dL_law_246 (by decide) ?_
    refine wp_istore (L' := [some (.ref 4), some (.ref 8), some (.ref 235), some (.ref 236), some (.ref 237), some (.ref 238), some (.ref 239), some (.ref 240), some (.ref 241), some (.ref 242), some (.ref 243), some (.ref 244), some (.ref 245), some (.ref 246), some (.int (nI t)), some (.int x), some (.int y), some (.int (nI kd)), some (.int (nI c)), some (.int (nI s4)), some (.int he), some (.int (nI p)), some (.int (nI f)), some (.int _), none, none, none]) dL_law_250 (by decide) rfl ?_
    refine wp_iconst (v := 0) dL_law_252 (by decide) ?_
    refine wp_istore (L' := [some (.ref 4), some (.ref 8), some (.ref 235), some (.ref 236), some (.ref 237), some (.ref 238), some (.ref 239), some (.ref 240), some (.ref 241), some (.ref 242), some (.ref 243), some (.ref 244), some (.ref 245), some (.ref 246), some (.int (nI t)), some (.int x), some (.int y), some (.int (nI kd)), some (.int (nI c)), some (.int (nI s4)), some (.int he), some (.int (nI p)), some (.int (nI f)), some (.int _), some (.int _), none, none]) dL_law_253 (by decide) rfl ?_
    refine wp_aload dL_law_255 rfl ?_
    refine wp_iload dL_law_257 rfl ?_
    refine wp_iadn (i := c) (v := nI (k + 1)) rfl tA_238 (Nat.le_of_ble_eq_true rfl) (by rw [lA_238]; omega) (Nat.le_of_ble_eq_true rfl) dL_law_259 (hp) ?_
    refine wp_ifN_ne (a := (k + 1)) (tgt := 337) dL_law_260 (by decide) rfl (by omega) (fun h260 => ?_) (fun h260 => absurd h260 (by omega))
    refine wp_aload dL_law_337 rfl ?_
    refine wp_iload dL_law_339 rfl ?_
    refine wp_iadn (i := c) (v := nI (k + 1)) rfl tA_238 (Nat.le_of_ble_eq_true rfl) (by rw [lA_238]; omega) (Nat.le_of_ble_eq_true rfl) dL_law_341 (hp) ?_
    refine wp_ifN_ne (a := (k + 1)) (tgt := 365) dL_law_342 (by decide) rfl (by omega) (fun h342 => ?_) (fun h342 => absurd h342 (by omega))
    refine wp_iload dL_law_365 rfl ?_
    refine wp_ifN_eq (a := 1) (tgt := 423) dL_law_367 (by decide) rfl (by omega) (fun h => absurd h (by decide)) (fun _ => ?_)
    refine s370 M k (nP sg) _ _ _ hk h6 hp hq4 (fun _ _ => rfl) (fun _ _ => rfl) rfl rfl rfl rfl rfl (fun re2 h1 h2 => hl.pl.putin hc36 hk hp h1 h2 hpi.1) (by rw [hwy]; decide) ?_
    have h := (hc.ok.1.kpu (c := nI c) (so := nI s4) (he := he) (pe := nI p) (f := nI f) (by rw [hwy]; decide)).1.1
    rw [if_neg hne] at h
    exact h

set_option maxRecDepth 100000 in
set_option maxHeartbeats 4000000 in
theorem lk_paddle {γ : Gm} {l : Launch} {M : Mm} {R : Rm} {K : KT} {x y : Int32} {sg tx F : Nat → Int32} {rc pl t kd c s : Nat} {hs S : Nat → Nat → Int32} {t19 t20 t21 t22 t23 t24 t25 t26 : Option Value} (hc : IC M R sg rc hs F S tx pl) (hl : LT M 234 238 (nP sg) sg) (hq4 : M 235 4 = nI (nP sg)) (hG : GL (M 240) (M 241) sg s) (hs3 : sg 3 = nI s) (hst : s ≤ 99 * t) (ht : t < 24) (hc36 : c < 36) (kk : ∀ M1 R1 (t19 t20 t21 t22 t23 t24 t25 t26 : Option Value), LawI M1 R1 (t + 1) → WP γ l mL_law 9 8 247 910 [some (.ref 4), some (.ref 8), some (.ref 235), some (.ref 236), some (.ref 237), some (.ref 238), some (.ref 239), some (.ref 240), some (.ref 241), some (.ref 242), some (.ref 243), some (.ref 244), some (.ref 245), some (.ref 246), some (.int (nI t)), some (.int x), some (.int y), some (.int (nI kd)), some (.int (nI c)), t19, t20, t21, t22, t23, t24, t25, t26] [] 247 M1 R1 K)  : WP γ l mL_law 9 8 247 179 [some (.ref 4), some (.ref 8), some (.ref 235), some (.ref 236), some (.ref 237), some (.ref 238), some (.ref 239), some (.ref 240), some (.ref 241), some (.ref 242), some (.ref 243), some (.ref 244), some (.ref 245), some (.ref 246), some (.int (nI t)), some (.int x), some (.int y), some (.int (nI kd)), some (.int (nI c)), t19, t20, t21, t22, t23, t24, t25, t26] [] 247 M R K := by
  have h6 := hc.ok.p6
  refine wp_drop [some (.ref 4), some (.ref 8), some (.ref 235), some (.ref 236), some (.ref 237), some (.ref 238), some (.ref 239), some (.ref 240), some (.ref 241), some (.ref 242), some (.ref 243), some (.ref 244), some (.ref 245), some (.ref 246), some (.int (nI t)), some (.int x), some (.int y), some (.int (nI kd)), some (.int (nI c)), none, none, none, none, none, none, none, none] (by simp [leL]) ?_
  refine wp_iload dL_law_179 rfl ?_
  refine wp_iconst (v := 4) dL_law_181 (by decide) ?_
  refine wp_cS2 (z := mL_low) (n' := 247) kL_47 dL_law_182 (Nat.le_of_ble_eq_true rfl) (Nat.le_of_ble_eq_true rfl) (Nat.le_of_ble_eq_true rfl) (Nat.le_refl _) (Nat.le_refl _) (s_lowX (n := 4) (by omega) (by decide) (fun s4 h_s4 => (wp_af ?_)))
  refine wp_istore (L' := [some (.ref 4), some (.ref 8), some (.ref 235), some (.ref 236), some (.ref 237), some (.ref 238), some (.ref 239), some (.ref 240), some (.ref 241), some (.ref 242), some (.ref 243), some (.ref 244), some (.ref 245), some (.ref 246), some (.int (nI t)), some (.int x), some (.int y), some (.int (nI kd)), some (.int (nI c)), some (.int (nI s4)), none, none, none, none, none, none, none]) dL_law_185 (by decide) rfl ?_
  refine wp_iload dL_law_187 rfl ?_
  refine wp_iconst (v := 2) dL_law_189 (by decide) ?_
  refine wp_ishr dL_law_190 ?_
  refine wp_sipush (v := 1999) dL_law_191 (by decide) ?_
  refine wp_cS2 (z := mL_low) (n' := 247) kL_47 dL_law_194 (Nat.le_of_ble_eq_true rfl) (Nat.le_of_ble_eq_true rfl) (Nat.le_of_ble_eq_true rfl) (Nat.le_refl _) (Nat.le_refl _) (s_lowX (n := 1999) (by omega) (by decide) (fun g h_g => (wp_af ?_)))
  refine wp_sipush (v := 999) dL_law_197 (by decide) ?_
  refine wp_isub dL_law_200 ?_
  refine wp_istore (L' := [some (.ref 4), some (.ref 8), some (.ref 235), some (.ref 236), some (.ref 237), some (.ref 238), some (.ref 239), some (.ref 240), some (.ref 241), some (.ref 242), some (.ref 243), some (.ref 244), some (.ref 245), some (.ref 246), some (.int (nI t)), some (.int x), some (.int y), some (.int (nI kd)), some (.int (nI c)), some (.int (nI s4)), some (.int _), none, none, none, none, none, none]) dL_law_201 (by decide) rfl ?_
  refine wp_iconst (v := 1) dL_law_203 (by decide) ?_
  refine wp_iload dL_law_204 rfl ?_
  refine wp_bipush (v := 7) dL_law_206 (by decide) ?_
  refine wp_ishr dL_law_208 ?_
  refine wp_bipush (v := 60) dL_law_209 (by decide) ?_
  refine wp_cS2 (z := mL_low) (n' := 247) kL_47 dL_law_211 (Nat.le_of_ble_eq_true rfl) (Nat.le_of_ble_eq_true rfl) (Nat.le_of_ble_eq_true rfl) (Nat.le_refl _) (Nat.le_refl _) (s_lowX (n := 60) (by omega) (by decide) (fun p0 h_p0 => (wp_af ?_)))
  refine wp_iadd dL_law_214 ?_
  refine wp_top ((ix_add rfl rfl)) ?_
  refine wp_istore (L' := [some (.ref 4), some (.ref 8), some (.ref 235), some (.ref 236), some (.ref 237), some (.ref 238), some (.ref 239), some (.ref 240), some (.ref 241), some (.ref 242), some (.ref 243), some (.ref 244), some (.ref 245), some (.ref 246), some (.int (nI t)), some (.int x), some (.int y), some (.int (nI kd)), some (.int (nI c)), some (.int (nI s4)), some (.int _), some (.int (nI (1 + p0))), none, none, none, none, none]) dL_law_215 (by decide) rfl ?_
  refine wp_iload dL_law_217 rfl ?_
  refine wp_bipush (v := 11) dL_law_219 (by decide) ?_
  refine wp_ishr dL_law_221 ?_
  refine wp_bipush (v := 60) dL_law_222 (by decide) ?_
  refine wp_cS2 (z := mL_low) (n' := 247) kL_47 dL_law_224 (Nat.le_of_ble_eq_true rfl) (Nat.le_of_ble_eq_true rfl) (Nat.le_of_ble_eq_true rfl) (Nat.le_refl _) (Nat.le_refl _) (s_lowX (n := 60) (by omega) (by decide) (fun f h_f => (wp_af ?_)))
  refine wp_istore (L' := [some (.ref 4), some (.ref 8), some (.ref 235), some (.ref 236), some (.ref 237), some (.ref 238), some (.ref 239), some (.ref 240), some (.ref 241), some (.ref 242), some (.ref 243), some (.ref 244), some (.ref 245), some (.ref 246), some (.int (nI t)), some (.int x), some (.int y), some (.int (nI kd)), some (.int (nI c)), some (.int (nI s4)), some (.int _), some (.int (nI (1 + p0))), some (.int (nI f)), none, none, none, none]) dL_law_227 (by decide) rfl ?_
  exact lk_229 hc hl hq4 hG hs3 hst ht hc36 h_s4 (less_in (h := g) (a := 1999) (b := 999) (d := 999) h_g (by omega) (by omega) (by omega) (by omega)) (by omega) (by omega) h_f kk

