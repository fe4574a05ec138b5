/-! THE CLASS: orders carried out -/
theorem whyP_01 {sg : Nat → Int32} {np : Nat} {c so he pe f : Int32} (h : ¬ whyP sg np c so he pe f = 0) : whyP sg np c so he pe f < 0 := by
  unfold whyP at h ⊢
  by_cases h1 : 0 ≤ c ∧ c ≤ 35
  · rw [if_pos h1] at h ⊢
    by_cases h2 : rcOk so he pe f
    · rw [if_pos h2] at h ⊢
      by_cases h3 : rkU sg c np = -6 ∧ np = 6
      · rw [if_pos h3]
        decide
      · rw [if_neg h3] at h
        exact absurd rfl h
    · rw [if_neg h2]
      decide
  · rw [if_neg h1]
    decide
theorem whyG_01 {ng : Nat} {c : Int32} (h : ¬ whyG ng c = 0) : whyG ng c < 0 := by
  unfold whyG at h ⊢
  by_cases h1 : 0 ≤ c ∧ c ≤ 39
  · rw [if_pos h1] at h ⊢
    by_cases h3 : ng = 4
    · rw [if_pos h3]
      decide
    · rw [if_neg h3] at h
      exact absurd rfl h
  · rw [if_neg h1]
    decide
theorem whyN_01 {sg : Nat → Int32} {c : Int32} (h : ¬ whyN sg c = 0) : whyN sg c < 0 := by
  unfold whyN at h ⊢
  by_cases h1 : 1 ≤ c ∧ c ≤ 99
  · rw [if_pos h1] at h ⊢
    by_cases h3 : 99999 < sg 3 + c
    · rw [if_pos h3]
      decide
    · rw [if_neg h3] at h
      exact absurd rfl h
  · rw [if_neg h1]
    decide
theorem PD.base {M0 M M1 : Mm} {tx : Nat → Int32} {pl a : Nat} {k t s v p f : Int32} (h : PD M0 M tx pl a k t s v p f) (e1 : M1 29 = M 29) (e2 : M1 30 = M 30) : PD M1 M1 tx pl a k t s v p f :=
  ⟨fun _ _ => rfl, by rw [e1]; exact h.ppl, by rw [e1]; exact h.pa, by rw [e1]; exact h.2.2.2.1, fun i hi => by rw [e2]; exact h.sg hi⟩
/-- the pad's numbers of an order -/
def ON (M : Mm) (k t s : Nat) (v : Int32) (p f : Nat) : Prop := M 29 3 = nI k ∧ M 29 4 = nI t ∧ (k = 112 → M 29 5 = nI s ∧ M 29 6 = v ∧ M 29 7 = nI p ∧ M 29 8 = nI f) ∧ (k = 108 → M 29 6 = v)
theorem OD.on {M0 M : Mm} {tx : Nat → Int32} {pl a k t s p f : Nat} {v k1 t1 s1 v1 p1 f1 : Int32} {x : Option (Nat × Nat × Nat × Int32 × Nat × Nat)} (h : OD x k1 t1 s1 v1 p1 f1) (g : PD M0 M tx pl a k1 t1 s1 v1 p1 f1) (e : x = some (k, t, s, v, p, f)) : ON M k t s v p f := by
  obtain ⟨a1, a2, a3, a4⟩ := h k t s v p f e
  exact ⟨g.pk.trans a1, g.pt.trans a2, fun q => by rw [g.ps, g.pv, g.pp, g.pf]; exact a3 q, fun q => by rw [g.pv]; exact a4 q⟩
theorem Tk.nn {M : Mm} {R : Rm} {b np ng : Nat} {sg : Nat → Int32} (h : Tk M R b np ng sg) (ho : Ok0 sg np ng) : Tk M R b (nP sg) (nG sg) sg := by rw [ho.nP, ho.nG]; exact h
theorem cyF_le (tx : Nat → Int32) (pl : Nat) : ∀ q a sg, (cyF tx pl q a sg).1 ≤ q
  | 0, _, _ => Nat.le_refl _
  | q + 1, a, sg => by
    rw [cyF]
    by_cases h1 : a < pl
    · rw [if_pos h1]
      rcases (rdO tx pl a).1 with _ | ⟨k, t, s, v, p, f⟩
      · exact Nat.zero_le _
      · dsimp only
        by_cases h2 : cdF sg k t s v p f = true
        · rw [if_pos h2]
          have := cyF_le tx pl q (if nx tx pl (rdO tx pl a).2 59 then (rdO tx pl a).2 + 1 else (rdO tx pl a).2) (doF sg k t s v p f)
          show _ + 1 ≤ _
          omega
        · rw [if_neg h2]
          exact Nat.zero_le _
    · rw [if_neg h1]
      exact Nat.zero_le _
set_option maxRecDepth 100000 in
set_option maxHeartbeats 4000000 in
theorem s_X5_carryOneOrder {γ : Gm} {l : Launch} {M : Mm} {R : Rm} {K : KT} {sg tx F : Nat → Int32} {rc pl : Nat} {hs S : Nat → Nat → Int32} {k t s p f : Nat} {v : Int32}  (h : IC M R sg rc hs F S tx pl) (hO : ON M k t s v p f) (hk : kdO k) (ht : t < 1000) (hv : k = 108 → bd v) (hE : ¬ cdF sg k t s v p f = true → ∀ res, res < 0 → K (some (.int res)) 243 M R) (hK : cdF sg k t s v p f = true → ∀ res M1 R1, ¬ res < 0 → FrM 9 M M1 → FrR 9 R R1 → RT R1 9 → Tk M1 R1 9 (nP (doF sg k t s v p f)) (nG (doF sg k t s v p f)) (doF sg k t s v p f) → K (some (.int res)) 243 M1 R1) : CL γ l mX5_carryOneOrder 5 243 243 [.ref 8] M R K := by
  show WP γ l mX5_carryOneOrder 5 243 243 0 [some (.ref 8)] [] 243 M R K
  have hC := h.ib.gr.rc
  have h9 := h.ib.gr.r9
  have h6 := h.ok.p6
  have h4 := h.ok.g4
  rcases hk with e | e | e | e | e <;> subst e
  · have ed : doF sg 112 t s v p f = puF sg (nP sg) (nI t) (nI s) v (nI p) (nI f) := by simp [doF]
    by_cases hw : whyP sg (nP sg) (nI t) (nI s) v (nI p) (nI f) < 0
    · have hc : ¬ cdF sg 112 t s v p f = true := fun e => by
        have : whyP sg (nP sg) (nI t) (nI s) v (nI p) (nI f) = 0 := by simpa [cdF] using e
        rw [this] at hw
        exact absurd hw (by decide)
      refine wp_aload_n dX5_carryOneOrder_0 rfl ?_
      refine wp_getQ fX5_19 tA_8 rfl hC.f1 (by decide) (Nat.le_of_ble_eq_true rfl) dX5_carryOneOrder_1 ?_
      refine wp_getJ (v := nI 112) fX5_236 tA_29 rfl (Nat.le_of_ble_eq_true rfl) dX5_carryOneOrder_4 (hO.1) ?_
      refine wp_lswitch [(103, 106), (112, 48), (116, 121), (120, 91)] 136 dX5_carryOneOrder_7 (by decide +kernel) (by decide +kernel) ?_
      refine wp_sw (fun h7_0 => absurd h7_0 (by decide)) (fun h7_0 => ?_)
      refine wp_sw (fun _ => ?_) (fun h7_1 => absurd rfl h7_1)
      refine wp_aload_n dX5_carryOneOrder_48 rfl ?_
      refine wp_getQ fX5_10 tA_8 rfl hC.f0 (by decide) (Nat.le_of_ble_eq_true rfl) dX5_carryOneOrder_49 ?_
      refine wp_aload_n dX5_carryOneOrder_52 rfl ?_
      refine wp_getQ fX5_19 tA_8 rfl hC.f1 (by decide) (Nat.le_of_ble_eq_true rfl) dX5_carryOneOrder_53 ?_
      refine wp_getJ (v := nI t) fX5_239 tA_29 rfl (Nat.le_of_ble_eq_true rfl) dX5_carryOneOrder_56 (hO.2.1) ?_
      refine wp_aload_n dX5_carryOneOrder_59 rfl ?_
      refine wp_getQ fX5_19 tA_8 rfl hC.f1 (by decide) (Nat.le_of_ble_eq_true rfl) dX5_carryOneOrder_60 ?_
      refine wp_getJ (v := nI s) fX5_242 tA_29 rfl (Nat.le_of_ble_eq_true rfl) dX5_carryOneOrder_63 ((hO.2.2.1 rfl).1) ?_
      refine wp_aload_n dX5_carryOneOrder_66 rfl ?_
      refine wp_getQ fX5_19 tA_8 rfl hC.f1 (by decide) (Nat.le_of_ble_eq_true rfl) dX5_carryOneOrder_67 ?_
      refine wp_getJ fX5_243 tA_29 rfl (Nat.le_of_ble_eq_true rfl) dX5_carryOneOrder_70 ((hO.2.2.1 rfl).2.1) ?_
      refine wp_aload_n dX5_carryOneOrder_73 rfl ?_
      refine wp_getQ fX5_19 tA_8 rfl hC.f1 (by decide) (Nat.le_of_ble_eq_true rfl) dX5_carryOneOrder_74 ?_
      refine wp_getJ (v := nI p) fX5_246 tA_29 rfl (Nat.le_of_ble_eq_true rfl) dX5_carryOneOrder_77 ((hO.2.2.1 rfl).2.2.1) ?_
      refine wp_aload_n dX5_carryOneOrder_80 rfl ?_
      refine wp_getQ fX5_19 tA_8 rfl hC.f1 (by decide) (Nat.le_of_ble_eq_true rfl) dX5_carryOneOrder_81 ?_
      refine wp_getJ (v := nI f) fX5_247 tA_29 rfl (Nat.le_of_ble_eq_true rfl) dX5_carryOneOrder_84 ((hO.2.2.1 rfl).2.2.2) ?_
      refine wp_cV5 (z := mX4_placePaddle) (n' := 243) kX5_56 dX5_carryOneOrder_87 (Nat.le_of_ble_eq_true rfl) (Nat.le_of_ble_eq_true rfl) tb9.t0.1 (by have := tb9.lt; omega) (Nat.le_of_ble_eq_true rfl) (Nat.le_refl _) (Nat.le_refl _) (s_X4_placePaddle tb9 h9 h.tk h.ok.1 (fun _ => (wp_af ?_)) (fun hn => absurd hw hn))
      exact wp_iret dX5_carryOneOrder_90 rfl rfl rfl (hE hc _ hw)
    · have h0 : whyP sg (nP sg) (nI t) (nI s) v (nI p) (nI f) = 0 := by
        by_cases e : whyP sg (nP sg) (nI t) (nI s) v (nI p) (nI f) = 0
        · exact e
        · exact absurd (whyP_01 e) hw
      have hc : cdF sg 112 t s v p f = true := by simpa [cdF] using h0
      have o2 := h.ok.1.kpu hw
      refine wp_aload_n dX5_carryOneOrder_0 rfl ?_
      refine wp_getQ fX5_19 tA_8 rfl hC.f1 (by decide) (Nat.le_of_ble_eq_true rfl) dX5_carryOneOrder_1 ?_
      refine wp_getJ (v := nI 112) fX5_236 tA_29 rfl (Nat.le_of_ble_eq_true rfl) dX5_carryOneOrder_4 (hO.1) ?_
      refine wp_lswitch [(103, 106), (112, 48), (116, 121), (120, 91)] 136 dX5_carryOneOrder_7 (by decide +kernel) (by decide +kernel) ?_
      refine wp_sw (fun h7_0 => absurd h7_0 (by decide)) (fun h7_0 => ?_)
      refine wp_sw (fun _ => ?_) (fun h7_1 => absurd rfl h7_1)
      refine wp_aload_n dX5_carryOneOrder_48 rfl ?_
      refine wp_getQ fX5_10 tA_8 rfl hC.f0 (by decide) (Nat.le_of_ble_eq_true rfl) dX5_carryOneOrder_49 ?_
      refine wp_aload_n dX5_carryOneOrder_52 rfl ?_
      refine wp_getQ fX5_19 tA_8 rfl hC.f1 (by decide) (Nat.le_of_ble_eq_true rfl) dX5_carryOneOrder_53 ?_
      refine wp_getJ (v := nI t) fX5_239 tA_29 rfl (Nat.le_of_ble_eq_true rfl) dX5_carryOneOrder_56 (hO.2.1) ?_
      refine wp_aload_n dX5_carryOneOrder_59 rfl ?_
      refine wp_getQ fX5_19 tA_8 rfl hC.f1 (by decide) (Nat.le_of_ble_eq_true rfl) dX5_carryOneOrder_60 ?_
      refine wp_getJ (v := nI s) fX5_242 tA_29 rfl (Nat.le_of_ble_eq_true rfl) dX5_carryOneOrder_63 ((hO.2.2.1 rfl).1) ?_
      refine wp_aload_n dX5_carryOneOrder_66 rfl ?_
      refine wp_getQ fX5_19 tA_8 rfl hC.f1 (by decide) (Nat.le_of_ble_eq_true rfl) dX5_carryOneOrder_67 ?_
      refine wp_getJ fX5_243 tA_29 rfl (Nat.le_of_ble_eq_true rfl) dX5_carryOneOrder_70 ((hO.2.2.1 rfl).2.1) ?_
      refine wp_aload_n dX5_carryOneOrder_73 rfl ?_
      refine wp_getQ fX5_19 tA_8 rfl hC.f1 (by decide) (Nat.le_of_ble_eq_true rfl) dX5_carryOneOrder_74 ?_
      refine wp_getJ (v := nI p) fX5_246 tA_29 rfl (Nat.le_of_ble_eq_true rfl) dX5_carryOneOrder_77 ((hO.2.2.1 rfl).2.2.1) ?_
      refine wp_aload_n dX5_carryOneOrder_80 rfl ?_
      refine wp_getQ fX5_19 tA_8 rfl hC.f1 (by decide) (Nat.le_of_ble_eq_true rfl) dX5_carryOneOrder_81 ?_
      refine wp_getJ (v := nI f) fX5_247 tA_29 rfl (Nat.le_of_ble_eq_true rfl) dX5_carryOneOrder_84 ((hO.2.2.1 rfl).2.2.2) ?_
      refine wp_cV5 (z := mX4_placePaddle) (n' := 243) kX5_56 dX5_carryOneOrder_87 (Nat.le_of_ble_eq_true rfl) (Nat.le_of_ble_eq_true rfl) tb9.t0.1 (by have := tb9.lt; omega) (Nat.le_of_ble_eq_true rfl) (Nat.le_refl _) (Nat.le_refl _) (s_X4_placePaddle tb9 h9 h.tk h.ok.1 (fun hn => absurd hn hw) (fun _ M1 R1 g1 g2 g3 g4 => (wp_af ?_)))
      exact wp_iret dX5_carryOneOrder_90 rfl rfl rfl (hK hc _ M1 R1 (by rw [o2.1.1]; exact nI_pos (by have := o2.1.2; omega)) g1 g2 g3 (by rw [ed]; exact g4.nn o2))
  · have ed : doF sg 108 t s v p f = up sg (6 + t) v := by simp [doF]
    have hv := hv rfl
    by_cases hw : 0 ≤ nI t ∧ nI t ≤ 39
    · have hc : cdF sg 108 t s v p f = true := by simpa [cdF] using hw
      have t40 : t < 40 := by
        have := (nI_leI (by omega) (by decide)).mp (show nI t ≤ nI 39 from hw.2)
        omega
      refine wp_aload_n dX5_carryOneOrder_0 rfl ?_
      refine wp_getQ fX5_19 tA_8 rfl hC.f1 (by decide) (Nat.le_of_ble_eq_true rfl) dX5_carryOneOrder_1 ?_
      refine wp_getJ (v := nI 108) fX5_236 tA_29 rfl (Nat.le_of_ble_eq_true rfl) dX5_carryOneOrder_4 (hO.1) ?_
      refine wp_lswitch [(103, 106), (112, 48), (116, 121), (120, 91)] 136 dX5_carryOneOrder_7 (by decide +kernel) (by decide +kernel) ?_
      refine wp_sw (fun h7_0 => absurd h7_0 (by decide)) (fun h7_0 => ?_)
      refine wp_sw (fun h7_1 => absurd h7_1 (by decide)) (fun h7_1 => ?_)
      refine wp_sw (fun h7_2 => absurd h7_2 (by decide)) (fun h7_2 => ?_)
      refine wp_sw (fun h7_3 => absurd h7_3 (by decide)) (fun h7_3 => ?_)
      refine wp_sw0 ?_
      refine wp_aload_n dX5_carryOneOrder_136 rfl ?_
      refine wp_getQ fX5_10 tA_8 rfl hC.f0 (by decide) (Nat.le_of_ble_eq_true rfl) dX5_carryOneOrder_137 ?_
      refine wp_aload_n dX5_carryOneOrder_140 rfl ?_
      refine wp_getQ fX5_19 tA_8 rfl hC.f1 (by decide) (Nat.le_of_ble_eq_true rfl) dX5_carryOneOrder_141 ?_
      refine wp_getJ (v := nI t) fX5_239 tA_29 rfl (Nat.le_of_ble_eq_true rfl) dX5_carryOneOrder_144 (hO.2.1) ?_
      refine wp_aload_n dX5_carryOneOrder_147 rfl ?_
      refine wp_getQ fX5_19 tA_8 rfl hC.f1 (by decide) (Nat.le_of_ble_eq_true rfl) dX5_carryOneOrder_148 ?_
      refine wp_getJ fX5_243 tA_29 rfl (Nat.le_of_ble_eq_true rfl) dX5_carryOneOrder_151 (hO.2.2.2 rfl) ?_
      refine wp_cV2 (z := mX4_changeLevel) (n' := 243) kX5_69 dX5_carryOneOrder_154 (Nat.le_of_ble_eq_true rfl) (Nat.le_of_ble_eq_true rfl) tb9.t0.1 (by have := tb9.lt; omega) (Nat.le_of_ble_eq_true rfl) (Nat.le_refl _) (Nat.le_refl _) (s_X4_changeLevel tb9 h9 h.tk h.ok.1 (fun hn => absurd hw hn) (fun _ hn => absurd hv hn) (fun _ q hq e M1 g1 g4 => (wp_af ?_)))
      exact wp_iret dX5_carryOneOrder_157 rfl rfl rfl (by
        obtain rfl := (nI_eq (by omega) (by omega)).mp e
        exact hK hc _ M1 R (bd_ge (h.ok.2 t hq).1) g1 (FrR.rf 9 R) h9 (by rw [ed]; exact g4.nn (h.ok.1.klevel hq)))
    · have hc : ¬ cdF sg 108 t s v p f = true := fun e => hw (by simpa [cdF] using e)
      refine wp_aload_n dX5_carryOneOrder_0 rfl ?_
      refine wp_getQ fX5_19 tA_8 rfl hC.f1 (by decide) (Nat.le_of_ble_eq_true rfl) dX5_carryOneOrder_1 ?_
      refine wp_getJ (v := nI 108) fX5_236 tA_29 rfl (Nat.le_of_ble_eq_true rfl) dX5_carryOneOrder_4 (hO.1) ?_
      refine wp_lswitch [(103, 106), (112, 48), (116, 121), (120, 91)] 136 dX5_carryOneOrder_7 (by decide +kernel) (by decide +kernel) ?_
      refine wp_sw (fun h7_0 => absurd h7_0 (by decide)) (fun h7_0 => ?_)
      refine wp_sw (fun h7_1 => absurd h7_1 (by decide)) (fun h7_1 => ?_)
      refine wp_sw (fun h7_2 => absurd h7_2 (by decide)) (fun h7_2 => ?_)
      refine wp_sw (fun h7_3 => absurd h7_3 (by decide)) (fun h7_3 => ?_)
      refine wp_sw0 ?_
      refine wp_aload_n dX5_carryOneOrder_136 rfl ?_
      refine wp_getQ fX5_10 tA_8 rfl hC.f0 (by decide) (Nat.le_of_ble_eq_true rfl) dX5_carryOneOrder_137 ?_
      refine wp_aload_n dX5_carryOneOrder_140 rfl ?_
      refine wp_getQ fX5_19 tA_8 rfl hC.f1 (by decide) (Nat.le_of_ble_eq_true rfl) dX5_carryOneOrder_141 ?_
      refine wp_getJ (v := nI t) fX5_239 tA_29 rfl (Nat.le_of_ble_eq_true rfl) dX5_carryOneOrder_144 (hO.2.1) ?_
      refine wp_aload_n dX5_carryOneOrder_147 rfl ?_
      refine wp_getQ fX5_19 tA_8 rfl hC.f1 (by decide) (Nat.le_of_ble_eq_true rfl) dX5_carryOneOrder_148 ?_
      refine wp_getJ fX5_243 tA_29 rfl (Nat.le_of_ble_eq_true rfl) dX5_carryOneOrder_151 (hO.2.2.2 rfl) ?_
      refine wp_cV2 (z := mX4_changeLevel) (n' := 243) kX5_69 dX5_carryOneOrder_154 (Nat.le_of_ble_eq_true rfl) (Nat.le_of_ble_eq_true rfl) tb9.t0.1 (by have := tb9.lt; omega) (Nat.le_of_ble_eq_true rfl) (Nat.le_refl _) (Nat.le_refl _) (s_X4_changeLevel tb9 h9 h.tk h.ok.1 (fun _ => (wp_af ?_)) (fun hn => absurd hn hw) (fun _ q hq e => absurd (by rw [e]; exact ⟨nI_pos' (by omega), (nI_leI (by omega) (by decide)).mpr (show q ≤ 39 by omega)⟩) hw))
      exact wp_iret dX5_carryOneOrder_157 rfl rfl rfl (hE hc _ (by decide))
  · by_cases hw : rkU sg (nI t) (nP sg) = -6
    · have hc : ¬ cdF sg 120 t s v p f = true := fun e => by
        have : ¬ rkU sg (nI t) (nP sg) = -6 := by simpa [cdF] using e
        exact this hw
      refine wp_aload_n dX5_carryOneOrder_0 rfl ?_
      refine wp_getQ fX5_19 tA_8 rfl hC.f1 (by decide) (Nat.le_of_ble_eq_true rfl) dX5_carryOneOrder_1 ?_
      refine wp_getJ (v := nI 120) fX5_236 tA_29 rfl (Nat.le_of_ble_eq_true rfl) dX5_carryOneOrder_4 (hO.1) ?_
      refine wp_lswitch [(103, 106), (112, 48), (116, 121), (120, 91)] 136 dX5_carryOneOrder_7 (by decide +kernel) (by decide +kernel) ?_
      refine wp_sw (fun h7_0 => absurd h7_0 (by decide)) (fun h7_0 => ?_)
      refine wp_sw (fun h7_1 => absurd h7_1 (by decide)) (fun h7_1 => ?_)
      refine wp_sw (fun h7_2 => absurd h7_2 (by decide)) (fun h7_2 => ?_)
      refine wp_sw (fun _ => ?_) (fun h7_3 => absurd rfl h7_3)
      refine wp_aload_n dX5_carryOneOrder_91 rfl ?_
      refine wp_getQ fX5_10 tA_8 rfl hC.f0 (by decide) (Nat.le_of_ble_eq_true rfl) dX5_carryOneOrder_92 ?_
      refine wp_aload_n dX5_carryOneOrder_95 rfl ?_
      refine wp_getQ fX5_19 tA_8 rfl hC.f1 (by decide) (Nat.le_of_ble_eq_true rfl) dX5_carryOneOrder_96 ?_
      refine wp_getJ (v := nI t) fX5_239 tA_29 rfl (Nat.le_of_ble_eq_true rfl) dX5_carryOneOrder_99 (hO.2.1) ?_
      refine wp_cV1 (z := mX4_removePaddle) (n' := 243) kX5_60 dX5_carryOneOrder_102 (Nat.le_of_ble_eq_true rfl) (Nat.le_of_ble_eq_true rfl) tb9.t0.1 (by have := tb9.lt; omega) (Nat.le_of_ble_eq_true rfl) (Nat.le_refl _) (Nat.le_refl _) (s_X4_removePaddle tb9 h9 h.tk h.ok.1 (fun _ => (wp_af ?_)) (fun q _ e => absurd (e.symm.trans hw) (nI_m6 (by omega))))
      exact wp_iret dX5_carryOneOrder_105 rfl rfl rfl (hE hc _ (by decide))
    · have hc : cdF sg 120 t s v p f = true := by simpa [cdF] using hw
      obtain ⟨k2, hk2, e2⟩ := rkU_in hw
      have ed : doF sg 120 t s v p f = lfF sg (nP sg) k2 := by
        simp [doF]
        rw [e2, nI_clamp (by omega)]
      refine wp_aload_n dX5_carryOneOrder_0 rfl ?_
      refine wp_getQ fX5_19 tA_8 rfl hC.f1 (by decide) (Nat.le_of_ble_eq_true rfl) dX5_carryOneOrder_1 ?_
      refine wp_getJ (v := nI 120) fX5_236 tA_29 rfl (Nat.le_of_ble_eq_true rfl) dX5_carryOneOrder_4 (hO.1) ?_
      refine wp_lswitch [(103, 106), (112, 48), (116, 121), (120, 91)] 136 dX5_carryOneOrder_7 (by decide +kernel) (by decide +kernel) ?_
      refine wp_sw (fun h7_0 => absurd h7_0 (by decide)) (fun h7_0 => ?_)
      refine wp_sw (fun h7_1 => absurd h7_1 (by decide)) (fun h7_1 => ?_)
      refine wp_sw (fun h7_2 => absurd h7_2 (by decide)) (fun h7_2 => ?_)
      refine wp_sw (fun _ => ?_) (fun h7_3 => absurd rfl h7_3)
      refine wp_aload_n dX5_carryOneOrder_91 rfl ?_
      refine wp_getQ fX5_10 tA_8 rfl hC.f0 (by decide) (Nat.le_of_ble_eq_true rfl) dX5_carryOneOrder_92 ?_
      refine wp_aload_n dX5_carryOneOrder_95 rfl ?_
      refine wp_getQ fX5_19 tA_8 rfl hC.f1 (by decide) (Nat.le_of_ble_eq_true rfl) dX5_carryOneOrder_96 ?_
      refine wp_getJ (v := nI t) fX5_239 tA_29 rfl (Nat.le_of_ble_eq_true rfl) dX5_carryOneOrder_99 (hO.2.1) ?_
      refine wp_cV1 (z := mX4_removePaddle) (n' := 243) kX5_60 dX5_carryOneOrder_102 (Nat.le_of_ble_eq_true rfl) (Nat.le_of_ble_eq_true rfl) tb9.t0.1 (by have := tb9.lt; omega) (Nat.le_of_ble_eq_true rfl) (Nat.le_refl _) (Nat.le_refl _) (s_X4_removePaddle tb9 h9 h.tk h.ok.1 (fun hn => absurd hn hw) (fun q hq e1 M1 R1 g1 g2 g3 g4 => (wp_af ?_)))
      exact wp_iret dX5_carryOneOrder_105 rfl rfl rfl (by
        obtain rfl := (nI_eq (by omega) (by omega)).mp (e1.symm.trans e2)
        exact hK hc _ M1 R1 (nI_pos (by omega)) g1 g2 g3 (by rw [ed]; exact g4.nn (h.ok.1.klf hq)))
  · have ed : doF sg 103 t s v p f = cgF sg (nG sg) (nI t) := by simp [doF]
    by_cases hw : whyG (nG sg) (nI t) < 0
    · have hc : ¬ cdF sg 103 t s v p f = true := fun e => by
        have : whyG (nG sg) (nI t) = 0 := by simpa [cdF] using e
        rw [this] at hw
        exact absurd hw (by decide)
      refine wp_aload_n dX5_carryOneOrder_0 rfl ?_
      refine wp_getQ fX5_19 tA_8 rfl hC.f1 (by decide) (Nat.le_of_ble_eq_true rfl) dX5_carryOneOrder_1 ?_
      refine wp_getJ (v := nI 103) fX5_236 tA_29 rfl (Nat.le_of_ble_eq_true rfl) dX5_carryOneOrder_4 (hO.1) ?_
      refine wp_lswitch [(103, 106), (112, 48), (116, 121), (120, 91)] 136 dX5_carryOneOrder_7 (by decide +kernel) (by decide +kernel) ?_
      refine wp_sw (fun _ => ?_) (fun h7_0 => absurd rfl h7_0)
      refine wp_aload_n dX5_carryOneOrder_106 rfl ?_
      refine wp_getQ fX5_10 tA_8 rfl hC.f0 (by decide) (Nat.le_of_ble_eq_true rfl) dX5_carryOneOrder_107 ?_
      refine wp_aload_n dX5_carryOneOrder_110 rfl ?_
      refine wp_getQ fX5_19 tA_8 rfl hC.f1 (by decide) (Nat.le_of_ble_eq_true rfl) dX5_carryOneOrder_111 ?_
      refine wp_getJ (v := nI t) fX5_239 tA_29 rfl (Nat.le_of_ble_eq_true rfl) dX5_carryOneOrder_114 (hO.2.1) ?_
      refine wp_cV1 (z := mX4_placeGauge) (n' := 243) kX5_66 dX5_carryOneOrder_117 (Nat.le_of_ble_eq_true rfl) (Nat.le_of_ble_eq_true rfl) tb9.t0.1 (by have := tb9.lt; omega) (Nat.le_of_ble_eq_true rfl) (Nat.le_refl _) (Nat.le_refl _) (s_X4_placeGauge tb9 h9 h.tk h.ok.1 (fun _ => (wp_af ?_)) (fun hn => absurd hw hn))
      exact wp_iret dX5_carryOneOrder_120 rfl rfl rfl (hE hc _ hw)
    · have h0 : whyG (nG sg) (nI t) = 0 := by
        by_cases e : whyG (nG sg) (nI t) = 0
        · exact e
        · exact absurd (whyG_01 e) hw
      have hc : cdF sg 103 t s v p f = true := by simpa [cdF] using h0
      refine wp_aload_n dX5_carryOneOrder_0 rfl ?_
      refine wp_getQ fX5_19 tA_8 rfl hC.f1 (by decide) (Nat.le_of_ble_eq_true rfl) dX5_carryOneOrder_1 ?_
      refine wp_getJ (v := nI 103) fX5_236 tA_29 rfl (Nat.le_of_ble_eq_true rfl) dX5_carryOneOrder_4 (hO.1) ?_
      refine wp_lswitch [(103, 106), (112, 48), (116, 121), (120, 91)] 136 dX5_carryOneOrder_7 (by decide +kernel) (by decide +kernel) ?_
      refine wp_sw (fun _ => ?_) (fun h7_0 => absurd rfl h7_0)
      refine wp_aload_n dX5_carryOneOrder_106 rfl ?_
      refine wp_getQ fX5_10 tA_8 rfl hC.f0 (by decide) (Nat.le_of_ble_eq_true rfl) dX5_carryOneOrder_107 ?_
      refine wp_aload_n dX5_carryOneOrder_110 rfl ?_
      refine wp_getQ fX5_19 tA_8 rfl hC.f1 (by decide) (Nat.le_of_ble_eq_true rfl) dX5_carryOneOrder_111 ?_
      refine wp_getJ (v := nI t) fX5_239 tA_29 rfl (Nat.le_of_ble_eq_true rfl) dX5_carryOneOrder_114 (hO.2.1) ?_
      refine wp_cV1 (z := mX4_placeGauge) (n' := 243) kX5_66 dX5_carryOneOrder_117 (Nat.le_of_ble_eq_true rfl) (Nat.le_of_ble_eq_true rfl) tb9.t0.1 (by have := tb9.lt; omega) (Nat.le_of_ble_eq_true rfl) (Nat.le_refl _) (Nat.le_refl _) (s_X4_placeGauge tb9 h9 h.tk h.ok.1 (fun hn => absurd hn hw) (fun _ hg4 q hq e M1 g1 g4 => (wp_af ?_)))
      exact wp_iret dX5_carryOneOrder_120 rfl rfl rfl (by
        obtain rfl := (nI_eq (by omega) (by omega)).mp e
        exact hK hc _ M1 R (nI_pos (by omega)) g1 (FrR.rf 9 R) h9 (by rw [ed]; exact g4.nn (h.ok.1.kcg hq hg4)))
  · have ed : doF sg 116 t s v p f = psF (nP sg) (nG sg) sg t := by simp [doF]
    by_cases hw : whyN sg (nI t) < 0
    · have hc : ¬ cdF sg 116 t s v p f = true := fun e => by
        have : whyN sg (nI t) = 0 := by simpa [cdF] using e
        rw [this] at hw
        exact absurd hw (by decide)
      refine wp_aload_n dX5_carryOneOrder_0 rfl ?_
      refine wp_getQ fX5_19 tA_8 rfl hC.f1 (by decide) (Nat.le_of_ble_eq_true rfl) dX5_carryOneOrder_1 ?_
      refine wp_getJ (v := nI 116) fX5_236 tA_29 rfl (Nat.le_of_ble_eq_true rfl) dX5_carryOneOrder_4 (hO.1) ?_
      refine wp_lswitch [(103, 106), (112, 48), (116, 121), (120, 91)] 136 dX5_carryOneOrder_7 (by decide +kernel) (by decide +kernel) ?_
      refine wp_sw (fun h7_0 => absurd h7_0 (by decide)) (fun h7_0 => ?_)
      refine wp_sw (fun h7_1 => absurd h7_1 (by decide)) (fun h7_1 => ?_)
      refine wp_sw (fun _ => ?_) (fun h7_2 => absurd rfl h7_2)
      refine wp_aload_n dX5_carryOneOrder_121 rfl ?_
      refine wp_getQ fX5_10 tA_8 rfl hC.f0 (by decide) (Nat.le_of_ble_eq_true rfl) dX5_carryOneOrder_122 ?_
      refine wp_aload_n dX5_carryOneOrder_125 rfl ?_
      refine wp_getQ fX5_19 tA_8 rfl hC.f1 (by decide) (Nat.le_of_ble_eq_true rfl) dX5_carryOneOrder_126 ?_
      refine wp_getJ (v := nI t) fX5_239 tA_29 rfl (Nat.le_of_ble_eq_true rfl) dX5_carryOneOrder_129 (hO.2.1) ?_
      refine wp_cV1 (z := mX4_passSteps) (n' := 243) kX5_72 dX5_carryOneOrder_132 (Nat.le_of_ble_eq_true rfl) (Nat.le_of_ble_eq_true rfl) tb9.t0.1 (by have := tb9.lt; omega) (Nat.le_of_ble_eq_true rfl) (Nat.le_refl _) (Nat.le_refl _) (s_X4_passSteps tb9 h9 h.tk h.ok.1 (fun _ => (wp_af ?_)) (fun hn => absurd hw hn))
      exact wp_iret dX5_carryOneOrder_135 rfl rfl rfl (hE hc _ hw)
    · have h0 : whyN sg (nI t) = 0 := by
        by_cases e : whyN sg (nI t) = 0
        · exact e
        · exact absurd (whyN_01 e) hw
      have hc : cdF sg 116 t s v p f = true := by simpa [cdF] using h0
      refine wp_aload_n dX5_carryOneOrder_0 rfl ?_
      refine wp_getQ fX5_19 tA_8 rfl hC.f1 (by decide) (Nat.le_of_ble_eq_true rfl) dX5_carryOneOrder_1 ?_
      refine wp_getJ (v := nI 116) fX5_236 tA_29 rfl (Nat.le_of_ble_eq_true rfl) dX5_carryOneOrder_4 (hO.1) ?_
      refine wp_lswitch [(103, 106), (112, 48), (116, 121), (120, 91)] 136 dX5_carryOneOrder_7 (by decide +kernel) (by decide +kernel) ?_
      refine wp_sw (fun h7_0 => absurd h7_0 (by decide)) (fun h7_0 => ?_)
      refine wp_sw (fun h7_1 => absurd h7_1 (by decide)) (fun h7_1 => ?_)
      refine wp_sw (fun _ => ?_) (fun h7_2 => absurd rfl h7_2)
      refine wp_aload_n dX5_carryOneOrder_121 rfl ?_
      refine wp_getQ fX5_10 tA_8 rfl hC.f0 (by decide) (Nat.le_of_ble_eq_true rfl) dX5_carryOneOrder_122 ?_
      refine wp_aload_n dX5_carryOneOrder_125 rfl ?_
      refine wp_getQ fX5_19 tA_8 rfl hC.f1 (by decide) (Nat.le_of_ble_eq_true rfl) dX5_carryOneOrder_126 ?_
      refine wp_getJ (v := nI t) fX5_239 tA_29 rfl (Nat.le_of_ble_eq_true rfl) dX5_carryOneOrder_129 (hO.2.1) ?_
      refine wp_cV1 (z := mX4_passSteps) (n' := 243) kX5_72 dX5_carryOneOrder_132 (Nat.le_of_ble_eq_true rfl) (Nat.le_of_ble_eq_true rfl) tb9.t0.1 (by have := tb9.lt; omega) (Nat.le_of_ble_eq_true rfl) (Nat.le_refl _) (Nat.le_refl _) (s_X4_passSteps tb9 h9 h.tk h.ok.1 (fun hn => absurd hn hw) (fun _ q hq1 hq2 e M1 g1 g4 => (wp_af ?_)))
      exact wp_iret dX5_carryOneOrder_135 rfl rfl rfl (by
        obtain rfl := (nI_eq (by omega) (by omega)).mp e
        exact hK hc _ M1 R (psC_ge h6 hq2) g1 (FrR.rf 9 R) h9 (by rw [ed]; exact g4.nn (h.ok.1.kpsF _)))

