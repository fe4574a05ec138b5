/-! THE CLASS: texts carried out -/
theorem cyF_end {tx : Nat → Int32} {pl q : Nat} {sg : Nat → Int32} : cyF tx pl q pl sg = (0, sg) := by
  rcases q with _ | q
  · rfl
  · rw [cyF, if_neg (by omega)]
theorem cyF_go {tx : Nat → Int32} {pl q a k t s p f : Nat} {v : Int32} {sg : Nat → Int32} (ha : a < pl) (e : (rdO tx pl a).1 = some (k, t, s, v, p, f)) (hc : cdF sg k t s v p f = true) : cyF tx pl (q + 1) a sg = ((cyF tx pl q (if nx tx pl (rdO tx pl a).2 59 then (rdO tx pl a).2 + 1 else (rdO tx pl a).2) (doF sg k t s v p f)).1 + 1, (cyF tx pl q (if nx tx pl (rdO tx pl a).2 59 then (rdO tx pl a).2 + 1 else (rdO tx pl a).2) (doF sg k t s v p f)).2) := by
  rw [cyF, if_pos ha, e]
  dsimp only
  rw [if_pos hc]
theorem cyF_no {tx : Nat → Int32} {pl q a k t s p f : Nat} {v : Int32} {sg : Nat → Int32} (ha : a < pl) (e : (rdO tx pl a).1 = some (k, t, s, v, p, f)) (hc : ¬ cdF sg k t s v p f = true) : cyF tx pl (q + 1) a sg = (0, sg) := by
  rw [cyF, if_pos ha, e]
  dsimp only
  rw [if_neg hc]
set_option maxRecDepth 100000 in
set_option maxHeartbeats 4000000 in
theorem s_X5_carryOrders {γ : Gm} {l : Launch} {M : Mm} {R : Rm} {K : KT} {sg tx F : Nat → Int32} {rc pl : Nat} {hs S : Nat → Nat → Int32}  (h : IC M R sg rc hs F S tx pl) (hff : ffF tx pl 82 0 = -6) (hb : Tk M R 155 (nP sg) (nG sg) sg) (hK : ∀ M1 R1, IC M1 R1 (cyF tx pl 82 0 sg).2 rc hs F S tx pl → Tk M1 R1 155 (nP sg) (nG sg) sg → FC M M1 R R1 → K (some (.int (nI (cyF tx pl 82 0 sg).1))) 243 M1 R1) : CL γ l mX5_carryOrders 6 243 243 [.ref 8] M R K := by
  show WP γ l mX5_carryOrders 6 243 243 0 [some (.ref 8), none] [] 243 M R K
  have hC := h.ib.gr.rc
  have hp := h.ib.p80
  have loop : ∀ (q a c : Nat) (ro : Nat → Int32) (M1 : Mm) (R1 : Rm) (k1 t1 s1 v1 p1 f1 : Int32), ffF tx pl q a = -6 → a ≤ pl → pl - a < q → 2 * c ≤ a → (cyF tx pl 82 0 sg).1 = c + (cyF tx pl q a ro).1 → (cyF tx pl 82 0 sg).2 = (cyF tx pl q a ro).2 → IC M1 R1 ro rc hs F S tx pl → Tk M1 R1 155 (nP sg) (nG sg) sg → FC M M1 R R1 → PD M1 M1 tx pl a k1 t1 s1 v1 p1 f1 → WP γ l mX5_carryOrders 6 243 243 10 [some (.ref 8), some (.int (nI c))] [] 243 M1 R1 K := by
    intro q
    induction q with
    | zero => intro a c ro M1 R1 k1 t1 s1 v1 p1 f1 _ _ h; omega
    | succ q ih =>
      intro a c ro M1 R1 k1 t1 s1 v1 p1 f1 hf ha hq hca ec es h1 b1 fc1 pd1
      have hC1 := h1.ib.gr.rc
      obtain ⟨⟨k, t, s, v, p, f⟩, eo, enx⟩ := ffF_go (by omega) hf
      obtain ⟨e, ee⟩ : ∃ e, (rdO tx pl a).2 = e := ⟨_, rfl⟩
      have erd : rdO tx pl a = (some (k, t, s, v, p, f), e) := by rw [← eo, ← ee]
      obtain ⟨i1, i2, i3⟩ := rdO_in erd
      obtain ⟨i4, i5⟩ := rdO_bd erd
      rw [ee] at enx
      have esm : (rdO tx pl a).1.isSome = true := by rw [eo]; rfl
      refine wp_iload_n dX5_carryOrders_10 rfl ?_
      refine wp_bipush (v := 80) dX5_carryOrders_11 (by decide) ?_
      refine wp_icN_ge (a := c) (b := 80) (tgt := 51) dX5_carryOrders_13 (by decide) rfl rfl (by omega) (by omega) (fun h13 => absurd h13 (by omega)) (fun h13 => ?_)
      refine wp_aload_n dX5_carryOrders_16 rfl ?_
      refine wp_getQ fX5_19 tA_8 rfl hC1.f1 (by decide) (Nat.le_of_ble_eq_true rfl) dX5_carryOrders_17 ?_
      refine wp_cV0 (z := mX2_readOrder) (n' := 243) kX5_226 dX5_carryOrders_20 (Nat.le_of_ble_eq_true rfl) (Nat.le_of_ble_eq_true rfl) tA_29 (Nat.le_of_ble_eq_true rfl) (Nat.le_of_ble_eq_true rfl) (Nat.le_refl _) (Nat.le_refl _) (s_X2_readOrder hC1 pd1 hp (by omega) (fun M2 k2 t2 s2 v2 p2 f2 od g => (wp_af ?_)))
      refine wp_bq_eq (tgt := 51) dX5_carryOrders_23 (by decide) (fun h23 => absurd esm h23) (fun h23 => ?_)
      have on := od.on g eo
      have h2 := h1.pad g
      rw [ee] at g
      by_cases hc : cdF ro k t s v p f = true
      · have ego := cyF_go (q := q) (show a < pl by omega) eo hc
        rw [ee] at ego
        refine wp_aload_n dX5_carryOrders_26 rfl ?_
        refine wp_cV0 (z := mX5_carryOneOrder) (n' := 243) kX5_229 dX5_carryOrders_27 (Nat.le_of_ble_eq_true rfl) (Nat.le_of_ble_eq_true rfl) tA_8 (Nat.le_of_ble_eq_true rfl) (Nat.le_of_ble_eq_true rfl) (Nat.le_refl _) (Nat.le_refl _) (s_X5_carryOneOrder h2 on i3 i4 i5 (fun hn => absurd hc hn) (fun _ res M3 R3 hr g1 g2 g3 g4 => (wp_af ?_)))
        have h3 : IC M3 R3 (doF ro k t s v p f) rc hs F S tx pl := ⟨g4, h2.ok.kdo i3 i4 i5 hc, h2.chg g1 g2 g3⟩
        have hC3 := h3.ib.gr.rc
        have b3 : Tk M3 R3 155 (nP sg) (nG sg) sg := b1.frame h1.ib.gr.r155 h.ok.p6 h.ok.g4 fun a _ _ => ⟨by rw [g1 a (by omega), g.1 a (by omega)], g2 a (by omega)⟩
        have fc3 : FC M M3 R R3 := fc1.tr fun a ha => ⟨by rw [g1 a (by omega), g.1 a (by omega)], g2 a (by omega)⟩
        have pd3 := g.base (M1 := M3) (g1 29 (by omega)) (g1 30 (by omega))
        refine wp_if_lt (tgt := 51) dX5_carryOrders_30 (by decide) (fun h30 => absurd h30 hr) (fun h30 => ?_)
        refine wp_iinc (v := nI (c + 1)) (L' := [some (.ref 8), some (.int (nI (c + 1)))]) dX5_carryOrders_33 (by decide) rfl (inc_1 _) rfl ?_
        refine wp_aload_n dX5_carryOrders_36 rfl ?_
        refine wp_getQ fX5_19 tA_8 rfl hC3.f1 (by decide) (Nat.le_of_ble_eq_true rfl) dX5_carryOrders_37 ?_
        refine wp_bipush (v := 59) dX5_carryOrders_40 (by decide) ?_
        refine wp_cV1 (z := mX2_accept) (n' := 243) kX5_232 dX5_carryOrders_42 (Nat.le_of_ble_eq_true rfl) (Nat.le_of_ble_eq_true rfl) tA_29 (Nat.le_of_ble_eq_true rfl) (Nat.le_of_ble_eq_true rfl) (Nat.le_refl _) (Nat.le_refl _) (s_X2_accept hC3 pd3 hp (by omega) (by decide) (fun M4 g5 => (wp_af ?_)))
        refine wp_bq_ne (tgt := 10) dX5_carryOrders_45 (by decide) (fun h45 => ?_) (fun h45 => ?_)
        · have h45b : nx tx pl e 59 := h45
          rw [if_pos h45] at g5
          rcases enx with e1 | ⟨e1, e2⟩
          · have := h45b.1
            omega
          · rw [if_pos h45b] at ego
            exact ih (e + 1) (c + 1) _ M4 R3 _ _ _ _ _ _ e2 (by have := e1.1; omega) (by omega) (by omega) (by rw [ec, ego]; show c + (_ + 1) = _; omega) (by rw [es, ego]) (h3.pad g5) (b3.frame h3.ib.gr.r155 h.ok.p6 h.ok.g4 fun a _ _ => ⟨g5.1 a (by omega), rfl⟩) (fc3.tr (FC.pad g5)) (g5.base rfl rfl)
        · have h45b : ¬ nx tx pl e 59 := h45
          rw [if_neg h45] at g5
          refine wp_goto (tgt := 51) dX5_carryOrders_48 (by decide) ?_
          refine wp_iload_n dX5_carryOrders_51 rfl ?_
          exact wp_iret dX5_carryOrders_52 rfl rfl rfl (by
          rcases enx with e1 | ⟨e1, e2⟩
          · rw [if_neg h45b, e1, cyF_end] at ego
            rw [ego] at ec es
            have := hK M4 R3 (by rw [es]; exact h3.pad g5) (b3.frame h3.ib.gr.r155 h.ok.p6 h.ok.g4 fun a _ _ => ⟨g5.1 a (by omega), rfl⟩) (fc3.tr (FC.pad g5))
            rw [ec] at this
            exact this
          · exact absurd e1 h45b)
      · have ego := cyF_no (q := q) (show a < pl by omega) eo hc
        rw [ego] at ec es
        refine wp_aload_n dX5_carryOrders_26 rfl ?_
        refine wp_cV0 (z := mX5_carryOneOrder) (n' := 243) kX5_229 dX5_carryOrders_27 (Nat.le_of_ble_eq_true rfl) (Nat.le_of_ble_eq_true rfl) tA_8 (Nat.le_of_ble_eq_true rfl) (Nat.le_of_ble_eq_true rfl) (Nat.le_refl _) (Nat.le_refl _) (s_X5_carryOneOrder h2 on i3 i4 i5 (fun _ res hr => (wp_af ?_)) (fun hn => absurd hn hc))
        refine wp_if_lt (tgt := 51) dX5_carryOrders_30 (by decide) (fun h30 => ?_) (fun h30 => absurd hr h30)
        refine wp_iload_n dX5_carryOrders_51 rfl ?_
        exact wp_iret dX5_carryOrders_52 rfl rfl rfl (by
          have := hK M2 R1 (by rw [es]; exact h2) (b1.frame h1.ib.gr.r155 h.ok.p6 h.ok.g4 fun a _ _ => ⟨g.1 a (by omega), rfl⟩) (fc1.tr (FC.pad g))
          rw [ec] at this
          exact this)
  obtain ⟨a0, k0, t0, s0, v0, p0, f0, hX⟩ := h.pd
  refine wp_iconst (v := 0) dX5_carryOrders_0 (by decide) ?_
  refine wp_istore_n (L' := [some (.ref 8), some (.int _)]) dX5_carryOrders_1 (by decide) rfl ?_
  refine wp_aload_n dX5_carryOrders_2 rfl ?_
  refine wp_getQ fX5_19 tA_8 rfl hC.f1 (by decide) (Nat.le_of_ble_eq_true rfl) dX5_carryOrders_3 ?_
  refine wp_iconst (v := 0) dX5_carryOrders_6 (by decide) ?_
  refine wp_putI pX5_223 tA_29 rfl ⟨rfl, rfl⟩ (Nat.le_of_ble_eq_true rfl) dX5_carryOrders_7 ?_
  have g := hX.w2 0
  exact loop 82 0 0 sg _ R _ _ _ _ _ _ hff (by omega) (by omega) (by omega) (by omega) rfl (h.pad g) (hb.frame h.ib.gr.r155 h.ok.p6 h.ok.g4 fun a _ _ => ⟨g.1 a (by omega), rfl⟩) (FC.pad g) (g.base rfl rfl)

set_option maxRecDepth 100000 in
set_option maxHeartbeats 4000000 in
theorem s_X5_carryOut {γ : Gm} {l : Launch} {M : Mm} {R : Rm} {K : KT} {sg tx F : Nat → Int32} {rc pl : Nat} {hs S : Nat → Nat → Int32}  (h : IC M R sg rc hs F S tx pl) (hE : ¬ ffF tx pl 82 0 = -6 → ∀ M1, IC M1 R sg rc hs F S tx pl → FC M M1 R R → K (some (.int (-3))) 243 M1 R) (hK : ffF tx pl 82 0 = -6 → ∀ M1 R1, IC M1 R1 (cyF tx pl 82 0 sg).2 (rcN rc) (pshH rc hs sg) F S tx 0 → FC M M1 R R1 → K (some (.int (nI (cyF tx pl 82 0 sg).1))) 243 M1 R1) : CL γ l mX5_carryOut 7 243 243 [.ref 8] M R K := by
  show WP γ l mX5_carryOut 7 243 243 0 [some (.ref 8), none] [] 243 M R K
  have hC := h.ib.gr.rc
  have h9 := h.ib.gr.r9
  have hle := cyF_le tx pl 82 0 sg
  obtain ⟨a0, k0, t0, s0, v0, p0, f0, hX⟩ := h.pd
  refine wp_aload_n dX5_carryOut_0 rfl ?_
  refine wp_getQ fX5_19 tA_8 rfl hC.f1 (by decide) (Nat.le_of_ble_eq_true rfl) dX5_carryOut_1 ?_
  refine wp_cV0 (z := mX2_findFault) (n' := 243) kX5_217 dX5_carryOut_4 (Nat.le_of_ble_eq_true rfl) (Nat.le_of_ble_eq_true rfl) tA_29 (Nat.le_of_ble_eq_true rfl) (Nat.le_of_ble_eq_true rfl) (Nat.le_refl _) (Nat.le_refl _) (s_X2_findFault hC hX h.ib.p80 (fun M1 _ _ _ _ _ _ _ g => (wp_af ?_)))
  refine wp_bipush (v := (-6)) dX5_carryOut_7 (by decide) ?_
  refine wp_icmp_eq (tgt := 15) dX5_carryOut_9 (by decide) (fun h9_ => ?_) (fun h9_ => ?_)
  · have hff : ffF tx pl 82 0 = -6 := h9_
    have h1 := h.pad g
    refine wp_aload_n dX5_carryOut_15 rfl ?_
    refine wp_getQ fX5_38 tA_8 rfl hC.f5 (by decide) (Nat.le_of_ble_eq_true rfl) dX5_carryOut_16 ?_
    refine wp_aload_n dX5_carryOut_19 rfl ?_
    refine wp_getQ fX5_10 tA_8 rfl hC.f0 (by decide) (Nat.le_of_ble_eq_true rfl) dX5_carryOut_20 ?_
    refine wp_cV1 (z := mX4_copyFrom) (n' := 243) kX5_44 dX5_carryOut_23 (Nat.le_of_ble_eq_true rfl) (Nat.le_of_ble_eq_true rfl) tb155.t0.1 (by have := tb155.lt; omega) (Nat.le_of_ble_eq_true rfl) (Nat.le_refl _) (Nat.le_refl _) (s_X4_copyFrom tb155 h1.ib.gr.r155 tb9 h9 (by omega) h1.tk h1.ok.1 (fun M2 g1 g2 => (wp_af0 ?_)))
    have h2 := h1.side (Or.inl rfl) g1
    refine wp_aload_n dX5_carryOut_26 rfl ?_
    refine wp_cV0 (z := mX5_carryOrders) (n' := 243) kX5_220 dX5_carryOut_27 (Nat.le_of_ble_eq_true rfl) (Nat.le_of_ble_eq_true rfl) tA_8 (Nat.le_of_ble_eq_true rfl) (Nat.le_of_ble_eq_true rfl) (Nat.le_refl _) (Nat.le_refl _) (s_X5_carryOrders h2 hff g2 (fun M3 R3 h3 b3 fc3 => (wp_af ?_)))
    have hC3 := h3.ib.gr.rc
    refine wp_istore_n (L' := [some (.ref 8), some (.int (nI (cyF tx pl 82 0 sg).1))]) dX5_carryOut_30 (by decide) rfl ?_
    refine wp_aload_n dX5_carryOut_31 rfl ?_
    refine wp_getQ fX5_19 tA_8 rfl hC3.f1 (by decide) (Nat.le_of_ble_eq_true rfl) dX5_carryOut_32 ?_
    refine wp_iconst (v := 0) dX5_carryOut_35 (by decide) ?_
    refine wp_putI pX5_189 tA_29 rfl ⟨rfl, rfl⟩ (Nat.le_of_ble_eq_true rfl) dX5_carryOut_36 ?_
    have h4 := h3.txt (e := 0) (M1 := u2 M3 29 1 0) (ty := tx) (by omega) (fun a h1 _ => u2_n _ _ _ h1) (by rw [u2_s, up_s]; rfl) (fun q hq => absurd hq (by omega))
    have b4 : Tk (u2 M3 29 1 0) R3 155 (nP sg) (nG sg) sg := b3.frame h3.ib.gr.r155 h.ok.p6 h.ok.g4 fun a _ _ => ⟨u2_n _ _ _ (by omega), rfl⟩
    refine wp_aload_n dX5_carryOut_39 rfl ?_
    refine wp_iload_n dX5_carryOut_40 rfl ?_
    refine wp_cV1 (z := mX5_recorded) (n' := 243) kX5_52 dX5_carryOut_41 (Nat.le_of_ble_eq_true rfl) (Nat.le_of_ble_eq_true rfl) tA_8 (Nat.le_of_ble_eq_true rfl) (Nat.le_of_ble_eq_true rfl) (Nat.le_refl _) (Nat.le_refl _) (s_X5_recorded h4.ib b4 h.ok (fun hn => absurd hn (nI_pos (by omega))) (fun _ M5 R5 g5 g6 g7 => (wp_af ?_)))
    exact wp_iret dX5_carryOut_44 rfl rfl rfl (hK hff M5 R5 ⟨h4.tk.frame h4.ib.gr.r9 h4.ok.p6 h4.ok.g4 fun a _ _ => ⟨g6 a (by omega), g7 a (by omega)⟩, h4.ok, g5⟩ (fun a ha => ⟨by rw [g6 a (by omega), u2_n _ _ _ (by omega), (fc3 a ha).1, g1 a (by omega), g.1 a (by omega)], by rw [g7 a (by omega), (fc3 a ha).2]⟩))
  · refine wp_bipush (v := (-3)) dX5_carryOut_12 (by decide) ?_
    exact wp_iret dX5_carryOut_14 rfl rfl rfl (hE h9_ M1 (h.pad g) (FC.pad g))

