/-! THE CLASS: changes -/
section
variable {M M1 M2 M3 : Mm} {R R2 R3 : Rm} {sg so tx F : Nat → Int32} {rc pl np ng : Nat} {hs S : Nat → Nat → Int32}
theorem IC.fin (o2 : Ok0 so np ng) (b2 : BdL so) (g4 : Tk M2 R2 9 np ng so) (r2 : RT R2 9) (g5 : IB M3 R3 rc hs F S tx pl) (g6 : ∀ a, (a < 29 ∨ 153 ≤ a) → M3 a = M2 a) (g7 : ∀ a, a ≠ 32 → R3 a = R2 a) : IC M3 R3 so rc hs F S tx pl :=
  ⟨by rw [o2.nP, o2.nG]; exact g4.frame r2 o2.1.2 o2.2.1.2 fun a _ _ => ⟨g6 a (by omega), g7 a (by omega)⟩, OkS.of o2 b2, g5⟩
theorem FC.ch (g1 : FrM 155 M M1) (g3 : FrM 9 M1 M2) (gr : FrR 9 R R2) (g6 : ∀ a, (a < 29 ∨ 153 ≤ a) → M3 a = M2 a) (g7 : ∀ a, a ≠ 32 → R3 a = R2 a) : FC M M3 R R3 := fun a ha => ⟨by rw [g6 a (by omega), g3 a (by omega), g1 a (by omega)], by rw [g7 a (by omega), gr a (by omega)]⟩
theorem FC.side {b : Nat} (hb : b = 155 ∨ b = 175) (g : FrM b M M1) : FC M M1 R R := fun a ha => ⟨g a (by omega), rfl⟩
theorem FrR.rf (b : Nat) (R : Rm) : FrR b R R := fun _ _ => rfl
end
theorem one_sub_ge {v : Int32} (h : v = 0 ∨ v = 1) : ¬ 1 - v < 0 := by
  rcases h with h | h <;> rw [h] <;> decide
set_option maxRecDepth 100000 in
set_option maxHeartbeats 4000000 in
theorem s_X5_set {γ : Gm} {l : Launch} {M : Mm} {R : Rm} {K : KT} {sg tx F : Nat → Int32} {rc pl : Nat} {hs S : Nat → Nat → Int32} {s v : Int32}  (h : IC M R sg rc hs F S tx pl) (hE : ¬ svOk s v → ∀ M1, IC M1 R sg rc hs F S tx pl → FC M M1 R R → K (some (.int (-2))) 247 M1 R) (hK : svOk s v → ∀ k, k < 3 → s = nI k → ∀ M1 R1, IC M1 R1 (up sg k v) (rcN rc) (pshH rc hs sg) F S tx pl → FC M M1 R R1 → K (some (.int (sg k))) 247 M1 R1) : CL γ l mX5_set 5 247 247 [.ref 8, .int s, .int v] M R K := by
  show WP γ l mX5_set 5 247 247 0 [some (.ref 8), some (.int s), some (.int v)] [] 247 M R K
  have hC := h.ib.gr.rc
  by_cases hsv : svOk s v
  · obtain ⟨k, hk, e⟩ := sv_in hsv
    subst e
    refine wp_aload_n dX5_set_0 rfl ?_
    refine wp_getQ fX5_38 tA_8 rfl hC.f5 (by decide) (Nat.le_of_ble_eq_true rfl) dX5_set_1 ?_
    refine wp_aload_n dX5_set_4 rfl ?_
    refine wp_getQ fX5_10 tA_8 rfl hC.f0 (by decide) (Nat.le_of_ble_eq_true rfl) dX5_set_5 ?_
    refine wp_cV1 (z := mX4_copyFrom) (n' := 247) kX5_44 dX5_set_8 (Nat.le_of_ble_eq_true rfl) (Nat.le_of_ble_eq_true rfl) tb155.t0.1 (by have := tb155.lt; omega) (Nat.le_of_ble_eq_true rfl) (Nat.le_refl _) (Nat.le_refl _) (s_X4_copyFrom tb155 h.ib.gr.r155 tb9 h.ib.gr.r9 (by omega) h.tk h.ok.1 (fun M1 g1 g2 => (wp_af0 ?_)))
    have c1 := h.side (Or.inl rfl) g1
    have k1 := c1.tk
    refine wp_aload_n dX5_set_11 rfl ?_
    refine wp_aload_n dX5_set_12 rfl ?_
    refine wp_getQ fX5_10 tA_8 rfl hC.f0 (by decide) (Nat.le_of_ble_eq_true rfl) dX5_set_13 ?_
    refine wp_iload_n dX5_set_16 rfl ?_
    refine wp_iload_n dX5_set_17 rfl ?_
    refine wp_cV2 (z := mX4_changeSetting) (n' := 247) kX5_48 dX5_set_18 (Nat.le_of_ble_eq_true rfl) (Nat.le_of_ble_eq_true rfl) tb9.t0.1 (by have := tb9.lt; omega) (Nat.le_of_ble_eq_true rfl) (Nat.le_refl _) (Nat.le_refl _) (s_X4_changeSetting tb9 c1.ib.gr.r9 k1 h.ok.1 (fun hn => absurd hsv hn) (fun _ q hq e M2 g3 g4 => (wp_af ?_)))
    obtain rfl := (nI_eq (by omega) (by omega)).mp e
    have b2 := c1.chg g3 (FrR.rf 9 R) c1.ib.gr.r9
    have t2 : Tk M2 R 155 (nP sg) (nG sg) sg := g2.frame h.ib.gr.r155 h.ok.p6 h.ok.g4 fun a _ _ => ⟨g3 a (by omega), rfl⟩
    refine wp_cV1 (z := mX5_recorded) (n' := 247) kX5_52 dX5_set_21 (Nat.le_of_ble_eq_true rfl) (Nat.le_of_ble_eq_true rfl) tA_8 (Nat.le_of_ble_eq_true rfl) (Nat.le_of_ble_eq_true rfl) (Nat.le_refl _) (Nat.le_refl _) (s_X5_recorded b2 t2 h.ok (fun hn => absurd hn (st_ge h.ok.1.2.2.2.2.2 hk)) (fun _ M3 R3 g5 g6 g7 => (wp_af ?_)))
    exact wp_iret dX5_set_24 rfl rfl rfl (hK hsv k hk rfl _ _ (IC.fin (h.ok.1.kset hk (st_set h.ok.1.2.2.2.2.2 hk hsv)) (h.ok.2.same fun j _ _ => up_n _ _ (by omega)) g4 c1.ib.gr.r9 g5 g6 g7) (FC.ch g1 g3 (FrR.rf 9 R) g6 g7))
  · refine wp_aload_n dX5_set_0 rfl ?_
    refine wp_getQ fX5_38 tA_8 rfl hC.f5 (by decide) (Nat.le_of_ble_eq_true rfl) dX5_set_1 ?_
    refine wp_aload_n dX5_set_4 rfl ?_
    refine wp_getQ fX5_10 tA_8 rfl hC.f0 (by decide) (Nat.le_of_ble_eq_true rfl) dX5_set_5 ?_
    refine wp_cV1 (z := mX4_copyFrom) (n' := 247) kX5_44 dX5_set_8 (Nat.le_of_ble_eq_true rfl) (Nat.le_of_ble_eq_true rfl) tb155.t0.1 (by have := tb155.lt; omega) (Nat.le_of_ble_eq_true rfl) (Nat.le_refl _) (Nat.le_refl _) (s_X4_copyFrom tb155 h.ib.gr.r155 tb9 h.ib.gr.r9 (by omega) h.tk h.ok.1 (fun M1 g1 g2 => (wp_af0 ?_)))
    have c1 := h.side (Or.inl rfl) g1
    have k1 := c1.tk
    refine wp_aload_n dX5_set_11 rfl ?_
    refine wp_aload_n dX5_set_12 rfl ?_
    refine wp_getQ fX5_10 tA_8 rfl hC.f0 (by decide) (Nat.le_of_ble_eq_true rfl) dX5_set_13 ?_
    refine wp_iload_n dX5_set_16 rfl ?_
    refine wp_iload_n dX5_set_17 rfl ?_
    refine wp_cV2 (z := mX4_changeSetting) (n' := 247) kX5_48 dX5_set_18 (Nat.le_of_ble_eq_true rfl) (Nat.le_of_ble_eq_true rfl) tb9.t0.1 (by have := tb9.lt; omega) (Nat.le_of_ble_eq_true rfl) (Nat.le_refl _) (Nat.le_refl _) (s_X4_changeSetting tb9 c1.ib.gr.r9 k1 h.ok.1 (fun _ => (wp_af ?_)) (fun hn => absurd hn hsv))
    refine wp_cV1 (z := mX5_recorded) (n' := 247) kX5_52 dX5_set_21 (Nat.le_of_ble_eq_true rfl) (Nat.le_of_ble_eq_true rfl) tA_8 (Nat.le_of_ble_eq_true rfl) (Nat.le_of_ble_eq_true rfl) (Nat.le_refl _) (Nat.le_refl _) (s_X5_recorded c1.ib g2 h.ok (fun _ => (wp_af ?_)) (fun hn => absurd (by decide) hn))
    exact wp_iret dX5_set_24 rfl rfl rfl (hE hsv M1 c1 (FC.side (Or.inl rfl) g1))

set_option maxRecDepth 100000 in
set_option maxHeartbeats 4000000 in
theorem s_X5_paddle {γ : Gm} {l : Launch} {M : Mm} {R : Rm} {K : KT} {sg tx F : Nat → Int32} {rc pl : Nat} {hs S : Nat → Nat → Int32} {c so he pe f : Int32}  (h : IC M R sg rc hs F S tx pl) (hE : whyP sg (nP sg) c so he pe f < 0 → ∀ M1, IC M1 R sg rc hs F S tx pl → FC M M1 R R → K (some (.int (whyP sg (nP sg) c so he pe f))) 247 M1 R) (hK : ¬ whyP sg (nP sg) c so he pe f < 0 → ∀ M1 R1, IC M1 R1 (puF sg (nP sg) c so he pe f) (rcN rc) (pshH rc hs sg) F S tx pl → FC M M1 R R1 → K (some (.int (puF sg (nP sg) c so he pe f 4))) 247 M1 R1) : CL γ l mX5_paddle 5 247 247 [.ref 8, .int c, .int so, .int he, .int pe, .int f] M R K := by
  show WP γ l mX5_paddle 5 247 247 0 [some (.ref 8), some (.int c), some (.int so), some (.int he), some (.int pe), some (.int f)] [] 247 M R K
  have hC := h.ib.gr.rc
  by_cases hw : whyP sg (nP sg) c so he pe f < 0
  · refine wp_aload_n dX5_paddle_0 rfl ?_
    refine wp_getQ fX5_38 tA_8 rfl hC.f5 (by decide) (Nat.le_of_ble_eq_true rfl) dX5_paddle_1 ?_
    refine wp_aload_n dX5_paddle_4 rfl ?_
    refine wp_getQ fX5_10 tA_8 rfl hC.f0 (by decide) (Nat.le_of_ble_eq_true rfl) dX5_paddle_5 ?_
    refine wp_cV1 (z := mX4_copyFrom) (n' := 247) kX5_44 dX5_paddle_8 (Nat.le_of_ble_eq_true rfl) (Nat.le_of_ble_eq_true rfl) tb155.t0.1 (by have := tb155.lt; omega) (Nat.le_of_ble_eq_true rfl) (Nat.le_refl _) (Nat.le_refl _) (s_X4_copyFrom tb155 h.ib.gr.r155 tb9 h.ib.gr.r9 (by omega) h.tk h.ok.1 (fun M1 g1 g2 => (wp_af0 ?_)))
    have c1 := h.side (Or.inl rfl) g1
    have k1 := c1.tk
    refine wp_aload_n dX5_paddle_11 rfl ?_
    refine wp_aload_n dX5_paddle_12 rfl ?_
    refine wp_getQ fX5_10 tA_8 rfl hC.f0 (by decide) (Nat.le_of_ble_eq_true rfl) dX5_paddle_13 ?_
    refine wp_iload_n dX5_paddle_16 rfl ?_
    refine wp_iload_n dX5_paddle_17 rfl ?_
    refine wp_iload_n dX5_paddle_18 rfl ?_
    refine wp_iload dX5_paddle_19 rfl ?_
    refine wp_iload dX5_paddle_21 rfl ?_
    refine wp_cV5 (z := mX4_placePaddle) (n' := 247) kX5_56 dX5_paddle_23 (Nat.le_of_ble_eq_true rfl) (Nat.le_of_ble_eq_true rfl) tb9.t0.1 (by have := tb9.lt; omega) (Nat.le_of_ble_eq_true rfl) (Nat.le_refl _) (Nat.le_refl _) (s_X4_placePaddle tb9 c1.ib.gr.r9 k1 h.ok.1 (fun _ => (wp_af ?_)) (fun hn => absurd hw hn))
    refine wp_cV1 (z := mX5_recorded) (n' := 247) kX5_52 dX5_paddle_26 (Nat.le_of_ble_eq_true rfl) (Nat.le_of_ble_eq_true rfl) tA_8 (Nat.le_of_ble_eq_true rfl) (Nat.le_of_ble_eq_true rfl) (Nat.le_refl _) (Nat.le_refl _) (s_X5_recorded c1.ib g2 h.ok (fun _ => (wp_af ?_)) (fun hn => absurd hw hn))
    exact wp_iret dX5_paddle_29 rfl rfl rfl (hE hw M1 c1 (FC.side (Or.inl rfl) g1))
  · have o2 := h.ok.1.kpu hw
    refine wp_aload_n dX5_paddle_0 rfl ?_
    refine wp_getQ fX5_38 tA_8 rfl hC.f5 (by decide) (Nat.le_of_ble_eq_true rfl) dX5_paddle_1 ?_
    refine wp_aload_n dX5_paddle_4 rfl ?_
    refine wp_getQ fX5_10 tA_8 rfl hC.f0 (by decide) (Nat.le_of_ble_eq_true rfl) dX5_paddle_5 ?_
    refine wp_cV1 (z := mX4_copyFrom) (n' := 247) kX5_44 dX5_paddle_8 (Nat.le_of_ble_eq_true rfl) (Nat.le_of_ble_eq_true rfl) tb155.t0.1 (by have := tb155.lt; omega) (Nat.le_of_ble_eq_true rfl) (Nat.le_refl _) (Nat.le_refl _) (s_X4_copyFrom tb155 h.ib.gr.r155 tb9 h.ib.gr.r9 (by omega) h.tk h.ok.1 (fun M1 g1 g2 => (wp_af0 ?_)))
    have c1 := h.side (Or.inl rfl) g1
    have k1 := c1.tk
    refine wp_aload_n dX5_paddle_11 rfl ?_
    refine wp_aload_n dX5_paddle_12 rfl ?_
    refine wp_getQ fX5_10 tA_8 rfl hC.f0 (by decide) (Nat.le_of_ble_eq_true rfl) dX5_paddle_13 ?_
    refine wp_iload_n dX5_paddle_16 rfl ?_
    refine wp_iload_n dX5_paddle_17 rfl ?_
    refine wp_iload_n dX5_paddle_18 rfl ?_
    refine wp_iload dX5_paddle_19 rfl ?_
    refine wp_iload dX5_paddle_21 rfl ?_
    refine wp_cV5 (z := mX4_placePaddle) (n' := 247) kX5_56 dX5_paddle_23 (Nat.le_of_ble_eq_true rfl) (Nat.le_of_ble_eq_true rfl) tb9.t0.1 (by have := tb9.lt; omega) (Nat.le_of_ble_eq_true rfl) (Nat.le_refl _) (Nat.le_refl _) (s_X4_placePaddle tb9 c1.ib.gr.r9 k1 h.ok.1 (fun hn => absurd hn hw) (fun _ M2 R2 g3 gr r2 g4 => (wp_af ?_)))
    have b2 := c1.chg g3 gr r2
    have t2 : Tk M2 R2 155 (nP sg) (nG sg) sg := g2.frame h.ib.gr.r155 h.ok.p6 h.ok.g4 fun a _ _ => ⟨g3 a (by omega), gr a (by omega)⟩
    refine wp_cV1 (z := mX5_recorded) (n' := 247) kX5_52 dX5_paddle_26 (Nat.le_of_ble_eq_true rfl) (Nat.le_of_ble_eq_true rfl) tA_8 (Nat.le_of_ble_eq_true rfl) (Nat.le_of_ble_eq_true rfl) (Nat.le_refl _) (Nat.le_refl _) (s_X5_recorded b2 t2 h.ok (fun hn => absurd hn (by rw [o2.1.1]; exact nI_pos (by have := o2.1.2; omega))) (fun _ M3 R3 g5 g6 g7 => (wp_af ?_)))
    exact wp_iret dX5_paddle_29 rfl rfl rfl (hK hw _ _ (IC.fin o2 (h.ok.2.same fun j _ _ => puF_lv hw h.ok.p6 (by omega) (by omega)) g4 r2 g5 g6 g7) (FC.ch g1 g3 gr g6 g7))

set_option maxRecDepth 100000 in
set_option maxHeartbeats 4000000 in
theorem s_X5_lift {γ : Gm} {l : Launch} {M : Mm} {R : Rm} {K : KT} {sg tx F : Nat → Int32} {rc pl : Nat} {hs S : Nat → Nat → Int32} {c : Int32}  (h : IC M R sg rc hs F S tx pl) (hE : rkU sg c (nP sg) = -6 → ∀ M1, IC M1 R sg rc hs F S tx pl → FC M M1 R R → K (some (.int (-1))) 247 M1 R) (hK : ∀ k, k < nP sg → rkU sg c (nP sg) = nI k → ∀ M1 R1, IC M1 R1 (lfF sg (nP sg) k) (rcN rc) (pshH rc hs sg) F S tx pl → FC M M1 R R1 → K (some (.int (nI (nP sg - 1)))) 247 M1 R1) : CL γ l mX5_lift 5 247 247 [.ref 8, .int c] M R K := by
  show WP γ l mX5_lift 5 247 247 0 [some (.ref 8), some (.int c)] [] 247 M R K
  have hC := h.ib.gr.rc
  have h6 := h.ok.p6
  by_cases hw : rkU sg c (nP sg) = -6
  · refine wp_aload_n dX5_lift_0 rfl ?_
    refine wp_getQ fX5_38 tA_8 rfl hC.f5 (by decide) (Nat.le_of_ble_eq_true rfl) dX5_lift_1 ?_
    refine wp_aload_n dX5_lift_4 rfl ?_
    refine wp_getQ fX5_10 tA_8 rfl hC.f0 (by decide) (Nat.le_of_ble_eq_true rfl) dX5_lift_5 ?_
    refine wp_cV1 (z := mX4_copyFrom) (n' := 247) kX5_44 dX5_lift_8 (Nat.le_of_ble_eq_true rfl) (Nat.le_of_ble_eq_true rfl) tb155.t0.1 (by have := tb155.lt; omega) (Nat.le_of_ble_eq_true rfl) (Nat.le_refl _) (Nat.le_refl _) (s_X4_copyFrom tb155 h.ib.gr.r155 tb9 h.ib.gr.r9 (by omega) h.tk h.ok.1 (fun M1 g1 g2 => (wp_af0 ?_)))
    have c1 := h.side (Or.inl rfl) g1
    have k1 := c1.tk
    refine wp_aload_n dX5_lift_11 rfl ?_
    refine wp_aload_n dX5_lift_12 rfl ?_
    refine wp_getQ fX5_10 tA_8 rfl hC.f0 (by decide) (Nat.le_of_ble_eq_true rfl) dX5_lift_13 ?_
    refine wp_iload_n dX5_lift_16 rfl ?_
    refine wp_cV1 (z := mX4_removePaddle) (n' := 247) kX5_60 dX5_lift_17 (Nat.le_of_ble_eq_true rfl) (Nat.le_of_ble_eq_true rfl) tb9.t0.1 (by have := tb9.lt; omega) (Nat.le_of_ble_eq_true rfl) (Nat.le_refl _) (Nat.le_refl _) (s_X4_removePaddle tb9 c1.ib.gr.r9 k1 h.ok.1 (fun _ => (wp_af ?_)) (fun q _ e => absurd (e.symm.trans hw) (nI_m6 (by omega))))
    refine wp_cV1 (z := mX5_recorded) (n' := 247) kX5_52 dX5_lift_20 (Nat.le_of_ble_eq_true rfl) (Nat.le_of_ble_eq_true rfl) tA_8 (Nat.le_of_ble_eq_true rfl) (Nat.le_of_ble_eq_true rfl) (Nat.le_refl _) (Nat.le_refl _) (s_X5_recorded c1.ib g2 h.ok (fun _ => (wp_af ?_)) (fun hn => absurd (by decide) hn))
    exact wp_iret dX5_lift_23 rfl rfl rfl (hE hw M1 c1 (FC.side (Or.inl rfl) g1))
  · obtain ⟨k, hk, e⟩ := rkU_in hw
    refine wp_aload_n dX5_lift_0 rfl ?_
    refine wp_getQ fX5_38 tA_8 rfl hC.f5 (by decide) (Nat.le_of_ble_eq_true rfl) dX5_lift_1 ?_
    refine wp_aload_n dX5_lift_4 rfl ?_
    refine wp_getQ fX5_10 tA_8 rfl hC.f0 (by decide) (Nat.le_of_ble_eq_true rfl) dX5_lift_5 ?_
    refine wp_cV1 (z := mX4_copyFrom) (n' := 247) kX5_44 dX5_lift_8 (Nat.le_of_ble_eq_true rfl) (Nat.le_of_ble_eq_true rfl) tb155.t0.1 (by have := tb155.lt; omega) (Nat.le_of_ble_eq_true rfl) (Nat.le_refl _) (Nat.le_refl _) (s_X4_copyFrom tb155 h.ib.gr.r155 tb9 h.ib.gr.r9 (by omega) h.tk h.ok.1 (fun M1 g1 g2 => (wp_af0 ?_)))
    have c1 := h.side (Or.inl rfl) g1
    have k1 := c1.tk
    refine wp_aload_n dX5_lift_11 rfl ?_
    refine wp_aload_n dX5_lift_12 rfl ?_
    refine wp_getQ fX5_10 tA_8 rfl hC.f0 (by decide) (Nat.le_of_ble_eq_true rfl) dX5_lift_13 ?_
    refine wp_iload_n dX5_lift_16 rfl ?_
    refine wp_cV1 (z := mX4_removePaddle) (n' := 247) kX5_60 dX5_lift_17 (Nat.le_of_ble_eq_true rfl) (Nat.le_of_ble_eq_true rfl) tb9.t0.1 (by have := tb9.lt; omega) (Nat.le_of_ble_eq_true rfl) (Nat.le_refl _) (Nat.le_refl _) (s_X4_removePaddle tb9 c1.ib.gr.r9 k1 h.ok.1 (fun hn => absurd hn hw) (fun q hq e1 M2 R2 g3 gr r2 g4 => (wp_af ?_)))
    obtain rfl := (nI_eq (by omega) (by omega)).mp (e1.symm.trans e)
    have b2 := c1.chg g3 gr r2
    have t2 : Tk M2 R2 155 (nP sg) (nG sg) sg := g2.frame h.ib.gr.r155 h.ok.p6 h.ok.g4 fun a _ _ => ⟨g3 a (by omega), gr a (by omega)⟩
    refine wp_cV1 (z := mX5_recorded) (n' := 247) kX5_52 dX5_lift_20 (Nat.le_of_ble_eq_true rfl) (Nat.le_of_ble_eq_true rfl) tA_8 (Nat.le_of_ble_eq_true rfl) (Nat.le_of_ble_eq_true rfl) (Nat.le_refl _) (Nat.le_refl _) (s_X5_recorded b2 t2 h.ok (fun hn => absurd hn (nI_pos (by omega))) (fun _ M3 R3 g5 g6 g7 => (wp_af ?_)))
    exact wp_iret dX5_lift_23 rfl rfl rfl (hK q hk e _ _ (IC.fin (h.ok.1.klf hq) (h.ok.2.same fun j _ _ => lfF_no (by omega) (by omega) h6) g4 r2 g5 g6 g7) (FC.ch g1 g3 gr g6 g7))

set_option maxRecDepth 100000 in
set_option maxHeartbeats 4000000 in
theorem s_X5_again {γ : Gm} {l : Launch} {M : Mm} {R : Rm} {K : KT} {sg tx F : Nat → Int32} {rc pl : Nat} {hs S : Nat → Nat → Int32} {c : Int32}  (h : IC M R sg rc hs F S tx pl) (hE : rkU sg c (nP sg) = -6 → ∀ M1, IC M1 R sg rc hs F S tx pl → FC M M1 R R → K (some (.int (-1))) 247 M1 R) (hK : ∀ k, k < nP sg → rkU sg c (nP sg) = nI k → ∀ M1 R1, IC M1 R1 (up sg (86 + 6 * k + 5) 1) (rcN rc) (pshH rc hs sg) F S tx pl → FC M M1 R R1 → K (some (.int (1 - sg (86 + 6 * k + 5)))) 247 M1 R1) : CL γ l mX5_again 5 247 247 [.ref 8, .int c] M R K := by
  show WP γ l mX5_again 5 247 247 0 [some (.ref 8), some (.int c)] [] 247 M R K
  have hC := h.ib.gr.rc
  have h6 := h.ok.p6
  by_cases hw : rkU sg c (nP sg) = -6
  · refine wp_aload_n dX5_again_0 rfl ?_
    refine wp_getQ fX5_38 tA_8 rfl hC.f5 (by decide) (Nat.le_of_ble_eq_true rfl) dX5_again_1 ?_
    refine wp_aload_n dX5_again_4 rfl ?_
    refine wp_getQ fX5_10 tA_8 rfl hC.f0 (by decide) (Nat.le_of_ble_eq_true rfl) dX5_again_5 ?_
    refine wp_cV1 (z := mX4_copyFrom) (n' := 247) kX5_44 dX5_again_8 (Nat.le_of_ble_eq_true rfl) (Nat.le_of_ble_eq_true rfl) tb155.t0.1 (by have := tb155.lt; omega) (Nat.le_of_ble_eq_true rfl) (Nat.le_refl _) (Nat.le_refl _) (s_X4_copyFrom tb155 h.ib.gr.r155 tb9 h.ib.gr.r9 (by omega) h.tk h.ok.1 (fun M1 g1 g2 => (wp_af0 ?_)))
    have c1 := h.side (Or.inl rfl) g1
    have k1 := c1.tk
    refine wp_aload_n dX5_again_11 rfl ?_
    refine wp_aload_n dX5_again_12 rfl ?_
    refine wp_getQ fX5_10 tA_8 rfl hC.f0 (by decide) (Nat.le_of_ble_eq_true rfl) dX5_again_13 ?_
    refine wp_iload_n dX5_again_16 rfl ?_
    refine wp_cV1 (z := mX4_startPaddle) (n' := 247) kX5_63 dX5_again_17 (Nat.le_of_ble_eq_true rfl) (Nat.le_of_ble_eq_true rfl) tb9.t0.1 (by have := tb9.lt; omega) (Nat.le_of_ble_eq_true rfl) (Nat.le_refl _) (Nat.le_refl _) (s_X4_startPaddle tb9 c1.ib.gr.r9 k1 h.ok.1 (fun _ => (wp_af ?_)) (fun q _ e => absurd (e.symm.trans hw) (nI_m6 (by omega))))
    refine wp_cV1 (z := mX5_recorded) (n' := 247) kX5_52 dX5_again_20 (Nat.le_of_ble_eq_true rfl) (Nat.le_of_ble_eq_true rfl) tA_8 (Nat.le_of_ble_eq_true rfl) (Nat.le_of_ble_eq_true rfl) (Nat.le_refl _) (Nat.le_refl _) (s_X5_recorded c1.ib g2 h.ok (fun _ => (wp_af ?_)) (fun hn => absurd (by decide) hn))
    exact wp_iret dX5_again_23 rfl rfl rfl (hE hw M1 c1 (FC.side (Or.inl rfl) g1))
  · obtain ⟨k, hk, e⟩ := rkU_in hw
    have hg := (h.ok.1.2.2.1 k hk).2.2.2.2.2
    refine wp_aload_n dX5_again_0 rfl ?_
    refine wp_getQ fX5_38 tA_8 rfl hC.f5 (by decide) (Nat.le_of_ble_eq_true rfl) dX5_again_1 ?_
    refine wp_aload_n dX5_again_4 rfl ?_
    refine wp_getQ fX5_10 tA_8 rfl hC.f0 (by decide) (Nat.le_of_ble_eq_true rfl) dX5_again_5 ?_
    refine wp_cV1 (z := mX4_copyFrom) (n' := 247) kX5_44 dX5_again_8 (Nat.le_of_ble_eq_true rfl) (Nat.le_of_ble_eq_true rfl) tb155.t0.1 (by have := tb155.lt; omega) (Nat.le_of_ble_eq_true rfl) (Nat.le_refl _) (Nat.le_refl _) (s_X4_copyFrom tb155 h.ib.gr.r155 tb9 h.ib.gr.r9 (by omega) h.tk h.ok.1 (fun M1 g1 g2 => (wp_af0 ?_)))
    have c1 := h.side (Or.inl rfl) g1
    have k1 := c1.tk
    refine wp_aload_n dX5_again_11 rfl ?_
    refine wp_aload_n dX5_again_12 rfl ?_
    refine wp_getQ fX5_10 tA_8 rfl hC.f0 (by decide) (Nat.le_of_ble_eq_true rfl) dX5_again_13 ?_
    refine wp_iload_n dX5_again_16 rfl ?_
    refine wp_cV1 (z := mX4_startPaddle) (n' := 247) kX5_63 dX5_again_17 (Nat.le_of_ble_eq_true rfl) (Nat.le_of_ble_eq_true rfl) tb9.t0.1 (by have := tb9.lt; omega) (Nat.le_of_ble_eq_true rfl) (Nat.le_refl _) (Nat.le_refl _) (s_X4_startPaddle tb9 c1.ib.gr.r9 k1 h.ok.1 (fun hn => absurd hn hw) (fun q hq e1 M2 g3 g4 => (wp_af ?_)))
    obtain rfl := (nI_eq (by omega) (by omega)).mp (e.symm.trans e1)
    have b2 := c1.chg g3 (FrR.rf 9 R) c1.ib.gr.r9
    have t2 : Tk M2 R 155 (nP sg) (nG sg) sg := g2.frame h.ib.gr.r155 h.ok.p6 h.ok.g4 fun a _ _ => ⟨g3 a (by omega), rfl⟩
    refine wp_cV1 (z := mX5_recorded) (n' := 247) kX5_52 dX5_again_20 (Nat.le_of_ble_eq_true rfl) (Nat.le_of_ble_eq_true rfl) tA_8 (Nat.le_of_ble_eq_true rfl) (Nat.le_of_ble_eq_true rfl) (Nat.le_refl _) (Nat.le_refl _) (s_X5_recorded b2 t2 h.ok (fun hn => absurd hn (one_sub_ge hg)) (fun _ M3 R3 g5 g6 g7 => (wp_af ?_)))
    exact wp_iret dX5_again_23 rfl rfl rfl (hK k hk e _ _ (IC.fin (h.ok.1.kagain hk) (h.ok.2.same fun j _ _ => up_n _ _ (by omega)) g4 c1.ib.gr.r9 g5 g6 g7) (FC.ch g1 g3 (FrR.rf 9 R) g6 g7))

set_option maxRecDepth 100000 in
set_option maxHeartbeats 4000000 in
theorem s_X5_gauge {γ : Gm} {l : Launch} {M : Mm} {R : Rm} {K : KT} {sg tx F : Nat → Int32} {rc pl : Nat} {hs S : Nat → Nat → Int32} {c : Int32}  (h : IC M R sg rc hs F S tx pl) (hE : whyG (nG sg) c < 0 → ∀ M1, IC M1 R sg rc hs F S tx pl → FC M M1 R R → K (some (.int (whyG (nG sg) c))) 247 M1 R) (hK : ¬ whyG (nG sg) c < 0 → ∀ M1 R1, IC M1 R1 (cgF sg (nG sg) c) (rcN rc) (pshH rc hs sg) F S tx pl → FC M M1 R R1 → K (some (.int (nI (nG sg)))) 247 M1 R1) : CL γ l mX5_gauge 5 247 247 [.ref 8, .int c] M R K := by
  show WP γ l mX5_gauge 5 247 247 0 [some (.ref 8), some (.int c)] [] 247 M R K
  have hC := h.ib.gr.rc
  have h4 := h.ok.g4
  by_cases hw : whyG (nG sg) c < 0
  · refine wp_aload_n dX5_gauge_0 rfl ?_
    refine wp_getQ fX5_38 tA_8 rfl hC.f5 (by decide) (Nat.le_of_ble_eq_true rfl) dX5_gauge_1 ?_
    refine wp_aload_n dX5_gauge_4 rfl ?_
    refine wp_getQ fX5_10 tA_8 rfl hC.f0 (by decide) (Nat.le_of_ble_eq_true rfl) dX5_gauge_5 ?_
    refine wp_cV1 (z := mX4_copyFrom) (n' := 247) kX5_44 dX5_gauge_8 (Nat.le_of_ble_eq_true rfl) (Nat.le_of_ble_eq_true rfl) tb155.t0.1 (by have := tb155.lt; omega) (Nat.le_of_ble_eq_true rfl) (Nat.le_refl _) (Nat.le_refl _) (s_X4_copyFrom tb155 h.ib.gr.r155 tb9 h.ib.gr.r9 (by omega) h.tk h.ok.1 (fun M1 g1 g2 => (wp_af0 ?_)))
    have c1 := h.side (Or.inl rfl) g1
    have k1 := c1.tk
    refine wp_aload_n dX5_gauge_11 rfl ?_
    refine wp_aload_n dX5_gauge_12 rfl ?_
    refine wp_getQ fX5_10 tA_8 rfl hC.f0 (by decide) (Nat.le_of_ble_eq_true rfl) dX5_gauge_13 ?_
    refine wp_iload_n dX5_gauge_16 rfl ?_
    refine wp_cV1 (z := mX4_placeGauge) (n' := 247) kX5_66 dX5_gauge_17 (Nat.le_of_ble_eq_true rfl) (Nat.le_of_ble_eq_true rfl) tb9.t0.1 (by have := tb9.lt; omega) (Nat.le_of_ble_eq_true rfl) (Nat.le_refl _) (Nat.le_refl _) (s_X4_placeGauge tb9 c1.ib.gr.r9 k1 h.ok.1 (fun _ => (wp_af ?_)) (fun hn => absurd hw hn))
    refine wp_cV1 (z := mX5_recorded) (n' := 247) kX5_52 dX5_gauge_20 (Nat.le_of_ble_eq_true rfl) (Nat.le_of_ble_eq_true rfl) tA_8 (Nat.le_of_ble_eq_true rfl) (Nat.le_of_ble_eq_true rfl) (Nat.le_refl _) (Nat.le_refl _) (s_X5_recorded c1.ib g2 h.ok (fun _ => (wp_af ?_)) (fun hn => absurd hw hn))
    exact wp_iret dX5_gauge_23 rfl rfl rfl (hE hw M1 c1 (FC.side (Or.inl rfl) g1))
  · refine wp_aload_n dX5_gauge_0 rfl ?_
    refine wp_getQ fX5_38 tA_8 rfl hC.f5 (by decide) (Nat.le_of_ble_eq_true rfl) dX5_gauge_1 ?_
    refine wp_aload_n dX5_gauge_4 rfl ?_
    refine wp_getQ fX5_10 tA_8 rfl hC.f0 (by decide) (Nat.le_of_ble_eq_true rfl) dX5_gauge_5 ?_
    refine wp_cV1 (z := mX4_copyFrom) (n' := 247) kX5_44 dX5_gauge_8 (Nat.le_of_ble_eq_true rfl) (Nat.le_of_ble_eq_true rfl) tb155.t0.1 (by have := tb155.lt; omega) (Nat.le_of_ble_eq_true rfl) (Nat.le_refl _) (Nat.le_refl _) (s_X4_copyFrom tb155 h.ib.gr.r155 tb9 h.ib.gr.r9 (by omega) h.tk h.ok.1 (fun M1 g1 g2 => (wp_af0 ?_)))
    have c1 := h.side (Or.inl rfl) g1
    have k1 := c1.tk
    refine wp_aload_n dX5_gauge_11 rfl ?_
    refine wp_aload_n dX5_gauge_12 rfl ?_
    refine wp_getQ fX5_10 tA_8 rfl hC.f0 (by decide) (Nat.le_of_ble_eq_true rfl) dX5_gauge_13 ?_
    refine wp_iload_n dX5_gauge_16 rfl ?_
    refine wp_cV1 (z := mX4_placeGauge) (n' := 247) kX5_66 dX5_gauge_17 (Nat.le_of_ble_eq_true rfl) (Nat.le_of_ble_eq_true rfl) tb9.t0.1 (by have := tb9.lt; omega) (Nat.le_of_ble_eq_true rfl) (Nat.le_refl _) (Nat.le_refl _) (s_X4_placeGauge tb9 c1.ib.gr.r9 k1 h.ok.1 (fun hn => absurd hn hw) (fun _ hg4 q hq e M2 g3 g4 => (wp_af ?_)))
    subst e
    have b2 := c1.chg g3 (FrR.rf 9 R) c1.ib.gr.r9
    have t2 : Tk M2 R 155 (nP sg) (nG sg) sg := g2.frame h.ib.gr.r155 h.ok.p6 h.ok.g4 fun a _ _ => ⟨g3 a (by omega), rfl⟩
    refine wp_cV1 (z := mX5_recorded) (n' := 247) kX5_52 dX5_gauge_20 (Nat.le_of_ble_eq_true rfl) (Nat.le_of_ble_eq_true rfl) tA_8 (Nat.le_of_ble_eq_true rfl) (Nat.le_of_ble_eq_true rfl) (Nat.le_refl _) (Nat.le_refl _) (s_X5_recorded b2 t2 h.ok (fun hn => absurd hn (nI_pos (by omega))) (fun _ M3 R3 g5 g6 g7 => (wp_af ?_)))
    exact wp_iret dX5_gauge_23 rfl rfl rfl (hK hw _ _ (IC.fin (h.ok.1.kcg hq hg4) (h.ok.2.same fun j h1 h2 => by rw [cgF, up_n _ _ (by omega), cgN, if_neg (by omega)]) g4 c1.ib.gr.r9 g5 g6 g7) (FC.ch g1 g3 (FrR.rf 9 R) g6 g7))

set_option maxRecDepth 100000 in
set_option maxHeartbeats 4000000 in
theorem s_X5_level {γ : Gm} {l : Launch} {M : Mm} {R : Rm} {K : KT} {sg tx F : Nat → Int32} {rc pl : Nat} {hs S : Nat → Nat → Int32} {c v : Int32}  (h : IC M R sg rc hs F S tx pl) (hE1 : ¬ (0 ≤ c ∧ c ≤ 39) → ∀ M1, IC M1 R sg rc hs F S tx pl → FC M M1 R R → K (some (.int (-1))) 247 M1 R) (hE2 : (0 ≤ c ∧ c ≤ 39) → ¬ (-9999 ≤ v ∧ v ≤ 9999) → ∀ M1, IC M1 R sg rc hs F S tx pl → FC M M1 R R → K (some (.int (-2))) 247 M1 R) (hK : (-9999 ≤ v ∧ v ≤ 9999) → ∀ k, k < 40 → c = nI k → ∀ M1 R1, IC M1 R1 (up sg (6 + k) v) (rcN rc) (pshH rc hs sg) F S tx pl → FC M M1 R R1 → K (some (.int (sg (6 + k) + 10000))) 247 M1 R1) : CL γ l mX5_level 5 247 247 [.ref 8, .int c, .int v] M R K := by
  show WP γ l mX5_level 5 247 247 0 [some (.ref 8), some (.int c), some (.int v)] [] 247 M R K
  have hC := h.ib.gr.rc
  by_cases hc : 0 ≤ c ∧ c ≤ 39
  · by_cases hv : -9999 ≤ v ∧ v ≤ 9999
    · obtain ⟨k, hk, e⟩ := cell_in hc
      subst e
      refine wp_aload_n dX5_level_0 rfl ?_
      refine wp_getQ fX5_38 tA_8 rfl hC.f5 (by decide) (Nat.le_of_ble_eq_true rfl) dX5_level_1 ?_
      refine wp_aload_n dX5_level_4 rfl ?_
      refine wp_getQ fX5_10 tA_8 rfl hC.f0 (by decide) (Nat.le_of_ble_eq_true rfl) dX5_level_5 ?_
      refine wp_cV1 (z := mX4_copyFrom) (n' := 247) kX5_44 dX5_level_8 (Nat.le_of_ble_eq_true rfl) (Nat.le_of_ble_eq_true rfl) tb155.t0.1 (by have := tb155.lt; omega) (Nat.le_of_ble_eq_true rfl) (Nat.le_refl _) (Nat.le_refl _) (s_X4_copyFrom tb155 h.ib.gr.r155 tb9 h.ib.gr.r9 (by omega) h.tk h.ok.1 (fun M1 g1 g2 => (wp_af0 ?_)))
      have c1 := h.side (Or.inl rfl) g1
      have k1 := c1.tk
      refine wp_aload_n dX5_level_11 rfl ?_
      refine wp_aload_n dX5_level_12 rfl ?_
      refine wp_getQ fX5_10 tA_8 rfl hC.f0 (by decide) (Nat.le_of_ble_eq_true rfl) dX5_level_13 ?_
      refine wp_iload_n dX5_level_16 rfl ?_
      refine wp_iload_n dX5_level_17 rfl ?_
      refine wp_cV2 (z := mX4_changeLevel) (n' := 247) kX5_69 dX5_level_18 (Nat.le_of_ble_eq_true rfl) (Nat.le_of_ble_eq_true rfl) tb9.t0.1 (by have := tb9.lt; omega) (Nat.le_of_ble_eq_true rfl) (Nat.le_refl _) (Nat.le_refl _) (s_X4_changeLevel tb9 c1.ib.gr.r9 k1 h.ok.1 (fun hn => absurd hc hn) (fun _ hn => absurd hv hn) (fun _ q hq e M2 g3 g4 => (wp_af ?_)))
      obtain rfl := (nI_eq (by omega) (by omega)).mp e
      have b2 := c1.chg g3 (FrR.rf 9 R) c1.ib.gr.r9
      have t2 : Tk M2 R 155 (nP sg) (nG sg) sg := g2.frame h.ib.gr.r155 h.ok.p6 h.ok.g4 fun a _ _ => ⟨g3 a (by omega), rfl⟩
      refine wp_cV1 (z := mX5_recorded) (n' := 247) kX5_52 dX5_level_21 (Nat.le_of_ble_eq_true rfl) (Nat.le_of_ble_eq_true rfl) tA_8 (Nat.le_of_ble_eq_true rfl) (Nat.le_of_ble_eq_true rfl) (Nat.le_refl _) (Nat.le_refl _) (s_X5_recorded b2 t2 h.ok (fun hn => absurd hn (bd_ge (h.ok.2 k hk).1)) (fun _ M3 R3 g5 g6 g7 => (wp_af ?_)))
      exact wp_iret dX5_level_24 rfl rfl rfl (hK hv k hk rfl _ _ (IC.fin (h.ok.1.klevel hk) (h.ok.2.klevel hv) g4 c1.ib.gr.r9 g5 g6 g7) (FC.ch g1 g3 (FrR.rf 9 R) g6 g7))
    · refine wp_aload_n dX5_level_0 rfl ?_
      refine wp_getQ fX5_38 tA_8 rfl hC.f5 (by decide) (Nat.le_of_ble_eq_true rfl) dX5_level_1 ?_
      refine wp_aload_n dX5_level_4 rfl ?_
      refine wp_getQ fX5_10 tA_8 rfl hC.f0 (by decide) (Nat.le_of_ble_eq_true rfl) dX5_level_5 ?_
      refine wp_cV1 (z := mX4_copyFrom) (n' := 247) kX5_44 dX5_level_8 (Nat.le_of_ble_eq_true rfl) (Nat.le_of_ble_eq_true rfl) tb155.t0.1 (by have := tb155.lt; omega) (Nat.le_of_ble_eq_true rfl) (Nat.le_refl _) (Nat.le_refl _) (s_X4_copyFrom tb155 h.ib.gr.r155 tb9 h.ib.gr.r9 (by omega) h.tk h.ok.1 (fun M1 g1 g2 => (wp_af0 ?_)))
      have c1 := h.side (Or.inl rfl) g1
      have k1 := c1.tk
      refine wp_aload_n dX5_level_11 rfl ?_
      refine wp_aload_n dX5_level_12 rfl ?_
      refine wp_getQ fX5_10 tA_8 rfl hC.f0 (by decide) (Nat.le_of_ble_eq_true rfl) dX5_level_13 ?_
      refine wp_iload_n dX5_level_16 rfl ?_
      refine wp_iload_n dX5_level_17 rfl ?_
      refine wp_cV2 (z := mX4_changeLevel) (n' := 247) kX5_69 dX5_level_18 (Nat.le_of_ble_eq_true rfl) (Nat.le_of_ble_eq_true rfl) tb9.t0.1 (by have := tb9.lt; omega) (Nat.le_of_ble_eq_true rfl) (Nat.le_refl _) (Nat.le_refl _) (s_X4_changeLevel tb9 c1.ib.gr.r9 k1 h.ok.1 (fun hn => absurd hc hn) (fun _ _ => (wp_af ?_)) (fun hn => absurd hn hv))
      refine wp_cV1 (z := mX5_recorded) (n' := 247) kX5_52 dX5_level_21 (Nat.le_of_ble_eq_true rfl) (Nat.le_of_ble_eq_true rfl) tA_8 (Nat.le_of_ble_eq_true rfl) (Nat.le_of_ble_eq_true rfl) (Nat.le_refl _) (Nat.le_refl _) (s_X5_recorded c1.ib g2 h.ok (fun _ => (wp_af ?_)) (fun hn => absurd (by decide) hn))
      exact wp_iret dX5_level_24 rfl rfl rfl (hE2 hc hv M1 c1 (FC.side (Or.inl rfl) g1))
  · refine wp_aload_n dX5_level_0 rfl ?_
    refine wp_getQ fX5_38 tA_8 rfl hC.f5 (by decide) (Nat.le_of_ble_eq_true rfl) dX5_level_1 ?_
    refine wp_aload_n dX5_level_4 rfl ?_
    refine wp_getQ fX5_10 tA_8 rfl hC.f0 (by decide) (Nat.le_of_ble_eq_true rfl) dX5_level_5 ?_
    refine wp_cV1 (z := mX4_copyFrom) (n' := 247) kX5_44 dX5_level_8 (Nat.le_of_ble_eq_true rfl) (Nat.le_of_ble_eq_true rfl) tb155.t0.1 (by have := tb155.lt; omega) (Nat.le_of_ble_eq_true rfl) (Nat.le_refl _) (Nat.le_refl _) (s_X4_copyFrom tb155 h.ib.gr.r155 tb9 h.ib.gr.r9 (by omega) h.tk h.ok.1 (fun M1 g1 g2 => (wp_af0 ?_)))
    have c1 := h.side (Or.inl rfl) g1
    have k1 := c1.tk
    refine wp_aload_n dX5_level_11 rfl ?_
    refine wp_aload_n dX5_level_12 rfl ?_
    refine wp_getQ fX5_10 tA_8 rfl hC.f0 (by decide) (Nat.le_of_ble_eq_true rfl) dX5_level_13 ?_
    refine wp_iload_n dX5_level_16 rfl ?_
    refine wp_iload_n dX5_level_17 rfl ?_
    refine wp_cV2 (z := mX4_changeLevel) (n' := 247) kX5_69 dX5_level_18 (Nat.le_of_ble_eq_true rfl) (Nat.le_of_ble_eq_true rfl) tb9.t0.1 (by have := tb9.lt; omega) (Nat.le_of_ble_eq_true rfl) (Nat.le_refl _) (Nat.le_refl _) (s_X4_changeLevel tb9 c1.ib.gr.r9 k1 h.ok.1 (fun _ => (wp_af ?_)) (fun hn => absurd hn hc) (fun _ q hq e => absurd (by rw [e]; exact ⟨nI_pos' (by omega), (nI_leI (by omega) (by decide)).mpr (show q ≤ 39 by omega)⟩) hc))
    refine wp_cV1 (z := mX5_recorded) (n' := 247) kX5_52 dX5_level_21 (Nat.le_of_ble_eq_true rfl) (Nat.le_of_ble_eq_true rfl) tA_8 (Nat.le_of_ble_eq_true rfl) (Nat.le_of_ble_eq_true rfl) (Nat.le_refl _) (Nat.le_refl _) (s_X5_recorded c1.ib g2 h.ok (fun _ => (wp_af ?_)) (fun hn => absurd (by decide) hn))
    exact wp_iret dX5_level_24 rfl rfl rfl (hE1 hc M1 c1 (FC.side (Or.inl rfl) g1))

set_option maxRecDepth 100000 in
set_option maxHeartbeats 4000000 in
theorem s_X5_pass {γ : Gm} {l : Launch} {M : Mm} {R : Rm} {K : KT} {sg tx F : Nat → Int32} {rc pl : Nat} {hs S : Nat → Nat → Int32} {c : Int32}  (h : IC M R sg rc hs F S tx pl) (hE : whyN sg c < 0 → ∀ M1, IC M1 R sg rc hs F S tx pl → FC M M1 R R → K (some (.int (whyN sg c))) 247 M1 R) (hK : ¬ whyN sg c < 0 → ∀ k, 1 ≤ k → k < 100 → c = nI k → ∀ M1 R1, IC M1 R1 (psF (nP sg) (nG sg) sg k) (rcN rc) (pshH rc hs sg) F S tx pl → FC M M1 R R1 → K (some (.int (psC (nP sg) (nG sg) sg k))) 247 M1 R1) : CL γ l mX5_pass 5 247 247 [.ref 8, .int c] M R K := by
  show WP γ l mX5_pass 5 247 247 0 [some (.ref 8), some (.int c)] [] 247 M R K
  have hC := h.ib.gr.rc
  have h6 := h.ok.p6
  by_cases hw : whyN sg c < 0
  · refine wp_aload_n dX5_pass_0 rfl ?_
    refine wp_getQ fX5_38 tA_8 rfl hC.f5 (by decide) (Nat.le_of_ble_eq_true rfl) dX5_pass_1 ?_
    refine wp_aload_n dX5_pass_4 rfl ?_
    refine wp_getQ fX5_10 tA_8 rfl hC.f0 (by decide) (Nat.le_of_ble_eq_true rfl) dX5_pass_5 ?_
    refine wp_cV1 (z := mX4_copyFrom) (n' := 247) kX5_44 dX5_pass_8 (Nat.le_of_ble_eq_true rfl) (Nat.le_of_ble_eq_true rfl) tb155.t0.1 (by have := tb155.lt; omega) (Nat.le_of_ble_eq_true rfl) (Nat.le_refl _) (Nat.le_refl _) (s_X4_copyFrom tb155 h.ib.gr.r155 tb9 h.ib.gr.r9 (by omega) h.tk h.ok.1 (fun M1 g1 g2 => (wp_af0 ?_)))
    have c1 := h.side (Or.inl rfl) g1
    have k1 := c1.tk
    refine wp_aload_n dX5_pass_11 rfl ?_
    refine wp_aload_n dX5_pass_12 rfl ?_
    refine wp_getQ fX5_10 tA_8 rfl hC.f0 (by decide) (Nat.le_of_ble_eq_true rfl) dX5_pass_13 ?_
    refine wp_iload_n dX5_pass_16 rfl ?_
    refine wp_cV1 (z := mX4_passSteps) (n' := 247) kX5_72 dX5_pass_17 (Nat.le_of_ble_eq_true rfl) (Nat.le_of_ble_eq_true rfl) tb9.t0.1 (by have := tb9.lt; omega) (Nat.le_of_ble_eq_true rfl) (Nat.le_refl _) (Nat.le_refl _) (s_X4_passSteps tb9 c1.ib.gr.r9 k1 h.ok.1 (fun _ => (wp_af ?_)) (fun hn => absurd hw hn))
    refine wp_cV1 (z := mX5_recorded) (n' := 247) kX5_52 dX5_pass_20 (Nat.le_of_ble_eq_true rfl) (Nat.le_of_ble_eq_true rfl) tA_8 (Nat.le_of_ble_eq_true rfl) (Nat.le_of_ble_eq_true rfl) (Nat.le_refl _) (Nat.le_refl _) (s_X5_recorded c1.ib g2 h.ok (fun _ => (wp_af ?_)) (fun hn => absurd hw hn))
    exact wp_iret dX5_pass_23 rfl rfl rfl (hE hw M1 c1 (FC.side (Or.inl rfl) g1))
  · obtain ⟨k, hk1, hk2, e⟩ := whyN_in hw
    subst e
    refine wp_aload_n dX5_pass_0 rfl ?_
    refine wp_getQ fX5_38 tA_8 rfl hC.f5 (by decide) (Nat.le_of_ble_eq_true rfl) dX5_pass_1 ?_
    refine wp_aload_n dX5_pass_4 rfl ?_
    refine wp_getQ fX5_10 tA_8 rfl hC.f0 (by decide) (Nat.le_of_ble_eq_true rfl) dX5_pass_5 ?_
    refine wp_cV1 (z := mX4_copyFrom) (n' := 247) kX5_44 dX5_pass_8 (Nat.le_of_ble_eq_true rfl) (Nat.le_of_ble_eq_true rfl) tb155.t0.1 (by have := tb155.lt; omega) (Nat.le_of_ble_eq_true rfl) (Nat.le_refl _) (Nat.le_refl _) (s_X4_copyFrom tb155 h.ib.gr.r155 tb9 h.ib.gr.r9 (by omega) h.tk h.ok.1 (fun M1 g1 g2 => (wp_af0 ?_)))
    have c1 := h.side (Or.inl rfl) g1
    have k1 := c1.tk
    refine wp_aload_n dX5_pass_11 rfl ?_
    refine wp_aload_n dX5_pass_12 rfl ?_
    refine wp_getQ fX5_10 tA_8 rfl hC.f0 (by decide) (Nat.le_of_ble_eq_true rfl) dX5_pass_13 ?_
    refine wp_iload_n dX5_pass_16 rfl ?_
    refine wp_cV1 (z := mX4_passSteps) (n' := 247) kX5_72 dX5_pass_17 (Nat.le_of_ble_eq_true rfl) (Nat.le_of_ble_eq_true rfl) tb9.t0.1 (by have := tb9.lt; omega) (Nat.le_of_ble_eq_true rfl) (Nat.le_refl _) (Nat.le_refl _) (s_X4_passSteps tb9 c1.ib.gr.r9 k1 h.ok.1 (fun hn => absurd hn hw) (fun _ q hq1 hq2 e M2 g3 g4 => (wp_af ?_)))
    obtain rfl := (nI_eq (by omega) (by omega)).mp e
    have b2 := c1.chg g3 (FrR.rf 9 R) c1.ib.gr.r9
    have t2 : Tk M2 R 155 (nP sg) (nG sg) sg := g2.frame h.ib.gr.r155 h.ok.p6 h.ok.g4 fun a _ _ => ⟨g3 a (by omega), rfl⟩
    refine wp_cV1 (z := mX5_recorded) (n' := 247) kX5_52 dX5_pass_20 (Nat.le_of_ble_eq_true rfl) (Nat.le_of_ble_eq_true rfl) tA_8 (Nat.le_of_ble_eq_true rfl) (Nat.le_of_ble_eq_true rfl) (Nat.le_refl _) (Nat.le_refl _) (s_X5_recorded b2 t2 h.ok (fun hn => absurd hn (psC_ge h6 hk2)) (fun _ M3 R3 g5 g6 g7 => (wp_af ?_)))
    exact wp_iret dX5_pass_23 rfl rfl rfl (hK hw k hk1 hk2 rfl _ _ (IC.fin (h.ok.1.kpsF k) (h.ok.2.kpsF h.ok.1 k) g4 c1.ib.gr.r9 g5 g6 g7) (FC.ch g1 g3 (FrR.rf 9 R) g6 g7))
