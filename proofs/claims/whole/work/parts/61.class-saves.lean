/-! THE CLASS: texts, undo, saved states -/
section
variable {M M1 : Mm} {R : Rm} {sg tx ty F : Nat → Int32} {rc pl e : Nat} {hs S : Nat → Nat → Int32}
/-- another text -/
theorem IC.txt (h : IC M R sg rc hs F S tx pl) (he : e ≤ 80) (g : ∀ a, a ≠ 29 → a ≠ 30 → M1 a = M a) (g1 : M1 29 1 = nI e) (g2 : ∀ i, i < e → M1 30 i = ty i) : IC M1 R sg rc hs F S ty e :=
  ⟨h.tk.frame h.ib.gr.r9 h.ok.p6 h.ok.g4 fun a _ _ => ⟨g a (by omega) (by omega), rfl⟩, h.ok, h.ib.gr, ⟨h.ib.h6, he⟩, h.ib.hi.fr h.ib.gr.rh h.ib.gr.rG h.ib.h6 h.ib.ho (by rw [g 31 (by omega) (by omega)]) rfl (fun a _ _ => ⟨g a (by omega) (by omega), rfl⟩), h.ib.ho, fun t ht => (h.ib.sl ht).fr (h.ib.gr.rS ht) (g 154 (by omega) (by omega)) (fun a _ _ => ⟨g a (by omega) (by omega), rfl⟩), g1, g2⟩
theorem IC.pad {k t s v p f : Int32} {a : Nat} (h : IC M R sg rc hs F S tx pl) (g : PD M M1 tx pl a k t s v p f) : IC M1 R sg rc hs F S tx pl :=
  h.txt h.ib.p80 (fun q h1 _ => g.1 q h1) g.ppl (fun _ hi => g.sg hi)
theorem FC.pad {k t s v p f : Int32} {a : Nat} (g : PD M M1 tx pl a k t s v p f) : FC M M1 R R := fun q hq => ⟨g.1 q (by omega), rfl⟩
theorem IC.pd (h : IC M R sg rc hs F S tx pl) : ∃ a k t s v p f, PD M M tx pl a k t s v p f := by
  obtain ⟨a, ha⟩ := nI_ex (M 29 2)
  exact ⟨a, _, _, _, _, _, _, fun _ _ => rfl, h.ib.hp, ha, ⟨rfl, rfl, rfl, rfl, rfl, rfl⟩, fun _ hi => h.ib.pt hi⟩
end
theorem rcN_le {rc : Nat} (h : rc ≤ 6) : rcN rc ≤ 6 := by
  unfold rcN
  split <;> omega
theorem psh_ok {rc : Nat} {hs : Nat → Nat → Int32} {sg : Nat → Int32} (h6 : rc ≤ 6) (ho : ∀ i, i < rc → OkS (hs i)) (h : OkS sg) : ∀ i, i < rcN rc → OkS (pshH rc hs sg i) := by
  intro i hi
  unfold rcN at hi
  show OkS (if i = (if rc = 6 then 5 else rc) then sg else hs (if rc = 6 then i + 1 else i))
  by_cases e : rc = 6
  · rw [if_pos e] at hi ⊢
    rw [if_pos e]
    by_cases e2 : i = 5
    · rw [if_pos e2]
      exact h
    · rw [if_neg e2]
      exact ho _ (by omega)
  · rw [if_neg e] at hi ⊢
    rw [if_neg e]
    by_cases e2 : i = rc
    · rw [if_pos e2]
      exact h
    · rw [if_neg e2]
      exact ho _ (by omega)
set_option maxRecDepth 100000 in
set_option maxHeartbeats 4000000 in
theorem s_X5_put {γ : Gm} {l : Launch} {M : Mm} {R : Rm} {K : KT} {sg tx F : Nat → Int32} {rc pl : Nat} {hs S : Nat → Nat → Int32} {v : Int64}  (h : IC M R sg rc hs F S tx pl) (hE : (∀ n, ¬ PutN v n) → K (some (.int (-2))) 243 M R) (hE2 : ∀ n, PutN v n → ¬ pl + n ≤ 80 → K (some (.int (-4))) 243 M R) (hK : ∀ n, PutN v n → pl + n ≤ 80 → ∀ M1, IC M1 R sg rc hs F S (ptR tx pl n v n) (pl + n) → FC M M1 R R → K (some (.int (nI (pl + n)))) 243 M1 R) : CL γ l mX5_put 2 243 243 [.ref 8, .long v] M R K := by
  show WP γ l mX5_put 2 243 243 0 [some (.ref 8), some (.long v), none] [] 243 M R K
  have hC := h.ib.gr.rc
  have h9 := h.ib.gr.r9
  have hR : ∀ m, PutN v m → pl + m ≤ 80 → K (some (.int (nI (pl + m)))) 243 (u2 (up M 30 (crR (M 30) pl m v m)) 29 1 (nI (pl + m))) R := fun m hm hp => hK m hm hp _ (h.txt hp (fun a h1 h2 => by rw [u2_n _ _ _ h1, up_n _ _ h2]) (by rw [u2_s, up_s]) (fun q hq => by
    rw [u2_n _ _ _ (by decide), up_s, crR, ptR]
    by_cases g : pl ≤ q
    · rw [if_pos (by omega), if_pos (by omega), show pl + m - 1 - q = m - 1 - (q - pl) by omega]
    · rw [if_neg (by omega), if_neg (by omega)]
      exact h.ib.pt (by omega))) (fun a ha => ⟨by rw [u2_n _ _ _ (by omega), up_n _ _ (by omega)], rfl⟩)
  by_cases hh : ∃ m, PutN v m
  · obtain ⟨m, hm⟩ := hh
    have hone : ∀ m2, PutN v m2 → m2 = m := fun m2 h2 => h2.only hm.2.1 hm.2.2.1 (Or.inr (by rw [lg_0.mp hm.2.2.2.2]; decide))
    by_cases hq : pl + m ≤ 80
    · refine wp_aload_n dX5_put_0 rfl ?_
      refine wp_getQ fX5_19 tA_8 rfl hC.f1 (by decide) (Nat.le_of_ble_eq_true rfl) dX5_put_1 ?_
      refine wp_lload_n dX5_put_4 rfl ?_
      refine wp_cV1 (z := mX2_append) (n' := 243) kX5_214 dX5_put_5 (Nat.le_of_ble_eq_true rfl) (Nat.le_of_ble_eq_true rfl) tA_29 (Nat.le_of_ble_eq_true rfl) (Nat.le_of_ble_eq_true rfl) (Nat.le_refl _) (Nat.le_refl _) (s_X2_append hC h.ib.hp h.ib.p80 (fun hn => absurd hm (hn m)) (fun m2 h2 hn => absurd (by rw [hone m2 h2]; exact hq) hn) (fun m2 h2 _ => (wp_af ?_)))
      exact wp_iret dX5_put_8 rfl rfl rfl (hR m2 h2 (by rw [hone m2 h2]; exact hq))
    · refine wp_aload_n dX5_put_0 rfl ?_
      refine wp_getQ fX5_19 tA_8 rfl hC.f1 (by decide) (Nat.le_of_ble_eq_true rfl) dX5_put_1 ?_
      refine wp_lload_n dX5_put_4 rfl ?_
      refine wp_cV1 (z := mX2_append) (n' := 243) kX5_214 dX5_put_5 (Nat.le_of_ble_eq_true rfl) (Nat.le_of_ble_eq_true rfl) tA_29 (Nat.le_of_ble_eq_true rfl) (Nat.le_of_ble_eq_true rfl) (Nat.le_refl _) (Nat.le_refl _) (s_X2_append hC h.ib.hp h.ib.p80 (fun hn => absurd hm (hn m)) (fun m2 h2 hn => (wp_af ?_)) (fun m2 h2 hn => absurd (by rw [← hone m2 h2]; exact hn) hq))
      exact wp_iret dX5_put_8 rfl rfl rfl (hE2 m2 h2 hn)
  · have hn : ∀ m, ¬ PutN v m := fun m hm => hh ⟨m, hm⟩
    refine wp_aload_n dX5_put_0 rfl ?_
    refine wp_getQ fX5_19 tA_8 rfl hC.f1 (by decide) (Nat.le_of_ble_eq_true rfl) dX5_put_1 ?_
    refine wp_lload_n dX5_put_4 rfl ?_
    refine wp_cV1 (z := mX2_append) (n' := 243) kX5_214 dX5_put_5 (Nat.le_of_ble_eq_true rfl) (Nat.le_of_ble_eq_true rfl) tA_29 (Nat.le_of_ble_eq_true rfl) (Nat.le_of_ble_eq_true rfl) (Nat.le_refl _) (Nat.le_refl _) (s_X2_append hC h.ib.hp h.ib.p80 (fun _ => (wp_af ?_)) (fun m2 h2 _ => absurd h2 (hn m2)) (fun m2 h2 _ => absurd h2 (hn m2)))
    exact wp_iret dX5_put_8 rfl rfl rfl (hE hn)

set_option maxRecDepth 100000 in
set_option maxHeartbeats 4000000 in
theorem s_X5_wipe {γ : Gm} {l : Launch} {M : Mm} {R : Rm} {K : KT} {sg tx F : Nat → Int32} {rc pl : Nat} {hs S : Nat → Nat → Int32}  (h : IC M R sg rc hs F S tx pl) (hK : ∀ M1, IC M1 R sg rc hs F S tx 0 → FC M M1 R R → K (some (.int (nI pl))) 243 M1 R) : CL γ l mX5_wipe 0 243 243 [.ref 8] M R K := by
  show WP γ l mX5_wipe 0 243 243 0 [some (.ref 8), none] [] 243 M R K
  have hC := h.ib.gr.rc
  have h9 := h.ib.gr.r9
  refine wp_aload_n dX5_wipe_0 rfl ?_
  refine wp_getQ fX5_19 tA_8 rfl hC.f1 (by decide) (Nat.le_of_ble_eq_true rfl) dX5_wipe_1 ?_
  refine wp_getJ (v := nI pl) fX5_189 tA_29 rfl (Nat.le_of_ble_eq_true rfl) dX5_wipe_4 (h.ib.hp) ?_
  refine wp_istore_n (L' := [some (.ref 8), some (.int (nI pl))]) dX5_wipe_7 (by decide) rfl ?_
  refine wp_aload_n dX5_wipe_8 rfl ?_
  refine wp_getQ fX5_19 tA_8 rfl hC.f1 (by decide) (Nat.le_of_ble_eq_true rfl) dX5_wipe_9 ?_
  refine wp_iconst (v := 0) dX5_wipe_12 (by decide) ?_
  refine wp_putI pX5_189 tA_29 rfl ⟨rfl, rfl⟩ (Nat.le_of_ble_eq_true rfl) dX5_wipe_13 ?_
  refine wp_iload_n dX5_wipe_16 rfl ?_
  exact wp_iret dX5_wipe_17 rfl rfl rfl (hK _ (h.txt (by omega) (fun a h1 _ => u2_n _ _ _ h1) (by rw [u2_s, up_s]; rfl) (fun q hq => absurd hq (by omega))) (fun a ha => ⟨u2_n _ _ _ (by omega), rfl⟩))

set_option maxRecDepth 100000 in
set_option maxHeartbeats 4000000 in
theorem s_X5_fault {γ : Gm} {l : Launch} {M : Mm} {R : Rm} {K : KT} {sg tx F : Nat → Int32} {rc pl : Nat} {hs S : Nat → Nat → Int32}  (h : IC M R sg rc hs F S tx pl) (hK : ∀ M1, IC M1 R sg rc hs F S tx pl → FC M M1 R R → K (some (.int (ffF tx pl 82 0))) 243 M1 R) : CL γ l mX5_fault 7 243 243 [.ref 8] M R K := by
  show WP γ l mX5_fault 7 243 243 0 [some (.ref 8)] [] 243 M R K
  have hC := h.ib.gr.rc
  have h9 := h.ib.gr.r9
  obtain ⟨a, k, t, s, v, p, f, hX⟩ := h.pd
  refine wp_aload_n dX5_fault_0 rfl ?_
  refine wp_getQ fX5_19 tA_8 rfl hC.f1 (by decide) (Nat.le_of_ble_eq_true rfl) dX5_fault_1 ?_
  refine wp_cV0 (z := mX2_findFault) (n' := 243) kX5_217 dX5_fault_4 (Nat.le_of_ble_eq_true rfl) (Nat.le_of_ble_eq_true rfl) tA_29 (Nat.le_of_ble_eq_true rfl) (Nat.le_of_ble_eq_true rfl) (Nat.le_refl _) (Nat.le_refl _) (s_X2_findFault hC hX h.ib.p80 (fun M1 _ _ _ _ _ _ _ g => (wp_af ?_)))
  exact wp_iret dX5_fault_7 rfl rfl rfl (hK M1 (h.pad g) (FC.pad g))

set_option maxRecDepth 100000 in
set_option maxHeartbeats 4000000 in
theorem s_X5_undo {γ : Gm} {l : Launch} {M : Mm} {R : Rm} {K : KT} {sg tx F : Nat → Int32} {rc pl : Nat} {hs S : Nat → Nat → Int32}  (h : IC M R sg rc hs F S tx pl) (hE : rc = 0 → K (some (.int (-5))) 243 M R) (hK : ∀ q, rc = q + 1 → ∀ M1, IC M1 R (hs q) q hs F S tx pl → FC M M1 R R → K (some (.int (nI q))) 243 M1 R) : CL γ l mX5_undo 4 243 243 [.ref 8] M R K := by
  show WP γ l mX5_undo 4 243 243 0 [some (.ref 8)] [] 243 M R K
  have hC := h.ib.gr.rc
  have h9 := h.ib.gr.r9
  have h6 := h.ib.h6
  by_cases h0 : rc = 0
  · refine wp_aload_n dX5_undo_0 rfl ?_
    refine wp_getQ fX5_26 tA_8 rfl hC.f2 (by decide) (Nat.le_of_ble_eq_true rfl) dX5_undo_1 ?_
    refine wp_getJ (v := nI rc) fX5_192 tA_31 rfl (Nat.le_of_ble_eq_true rfl) dX5_undo_4 (h.ib.hi.1) ?_
    refine wp_ifN_ne (a := rc) (tgt := 13) dX5_undo_7 (by decide) rfl (by omega) (fun h7 => absurd h7 (by omega)) (fun h7 => ?_)
    refine wp_bipush (v := (-5)) dX5_undo_10 (by decide) ?_
    exact wp_iret dX5_undo_12 rfl rfl rfl (hE h0)
  · obtain ⟨q, rfl⟩ : ∃ q, rc = q + 1 := ⟨rc - 1, by omega⟩
    refine wp_aload_n dX5_undo_0 rfl ?_
    refine wp_getQ fX5_26 tA_8 rfl hC.f2 (by decide) (Nat.le_of_ble_eq_true rfl) dX5_undo_1 ?_
    refine wp_getJ (v := nI (q + 1)) fX5_192 tA_31 rfl (Nat.le_of_ble_eq_true rfl) dX5_undo_4 (h.ib.hi.1) ?_
    refine wp_ifN_ne (a := (q + 1)) (tgt := 13) dX5_undo_7 (by decide) rfl (by omega) (fun h7 => ?_) (fun h7 => absurd h7 (by omega))
    refine wp_aload_n dX5_undo_13 rfl ?_
    refine wp_getQ fX5_26 tA_8 rfl hC.f2 (by decide) (Nat.le_of_ble_eq_true rfl) dX5_undo_14 ?_
    refine wp_aload_n dX5_undo_17 rfl ?_
    refine wp_getQ fX5_10 tA_8 rfl hC.f0 (by decide) (Nat.le_of_ble_eq_true rfl) dX5_undo_18 ?_
    refine wp_cV1 (z := mX1_popInto) (n' := 243) kX5_248 dX5_undo_21 (Nat.le_of_ble_eq_true rfl) (Nat.le_of_ble_eq_true rfl) tA_31 (Nat.le_of_ble_eq_true rfl) (Nat.le_of_ble_eq_true rfl) (Nat.le_refl _) (Nat.le_refl _) (s_X1_popInto hC.h h.ib.gr.rh h.ib.gr.rG h.ib.hi h6 h.ib.ho tb9 (by omega) h9 (fun M1 g1 g2 g3 => (wp_af0 ?_)))
    refine wp_aload_n dX5_undo_24 rfl ?_
    refine wp_getQ fX5_26 tA_8 rfl hC.f2 (by decide) (Nat.le_of_ble_eq_true rfl) dX5_undo_25 ?_
    refine wp_getJ (v := nI q) fX5_192 tA_31 rfl (Nat.le_of_ble_eq_true rfl) dX5_undo_28 (g2.1) ?_
    exact wp_iret dX5_undo_31 rfl rfl rfl (hK q rfl M1 ⟨g3, h.ib.ho q (by omega), h.ib.gr, ⟨by omega, h.ib.p80⟩, g2, fun i hi => h.ib.ho i (by omega), fun t ht => (h.ib.sl ht).fr (h.ib.gr.rS ht) (g1 154 (by omega) (by omega)) (fun a _ _ => ⟨g1 a (by omega) (by omega), rfl⟩), by rw [g1 29 (by omega) (by omega)]; exact h.ib.hp, fun i hi => by rw [g1 30 (by omega) (by omega)]; exact h.ib.pt hi⟩ (fun a ha => ⟨g1 a (by omega) (by omega), rfl⟩))

set_option maxRecDepth 100000 in
set_option maxHeartbeats 4000000 in
theorem s_X5_save {γ : Gm} {l : Launch} {M : Mm} {R : Rm} {K : KT} {sg tx F : Nat → Int32} {rc pl : Nat} {hs S : Nat → Nat → Int32} {t0 : Int32}  (h : IC M R sg rc hs F S tx pl) (hE : ¬ (0 ≤ t0 ∧ t0 ≤ 1) → K (some (.int (-2))) 243 M R) (hK : ∀ t, t < 2 → t0 = nI t → ∀ M1, IC M1 R sg rc hs (up F t 1) (up S t sg) tx pl → FC M M1 R R → K (some (.int (sg 4))) 243 M1 R) : CL γ l mX5_save 3 243 243 [.ref 8, .int t0] M R K := by
  show WP γ l mX5_save 3 243 243 0 [some (.ref 8), some (.int t0)] [] 243 M R K
  have hC := h.ib.gr.rc
  have h9 := h.ib.gr.r9
  have sl_r : ∀ t, t < 2 → R 153 t = 195 + 20 * t := fun t ht => by
    rcases (by omega : t = 0 ∨ t = 1) with e | e <;> subst e
    · exact hC.s0
    · exact hC.s1
  refine wp_iload_n dX5_save_0 rfl ?_
  refine wp_iconst (v := 2) dX5_save_1 (by decide) ?_
  refine wp_cS2 (z := mX5_isOutside) (n' := 243) kX5_78 dX5_save_2 (Nat.le_of_ble_eq_true rfl) (Nat.le_of_ble_eq_true rfl) (Nat.le_of_ble_eq_true rfl) (Nat.le_refl _) (Nat.le_refl _) (s_X5_isOutside (wp_af ?_))
  refine wp_bq_eq (tgt := 11) dX5_save_5 (by decide) (fun h5 => ?_) (fun h5 => ?_)
  · have g0 := out_2.mp h5
    obtain ⟨t, ht, e_t⟩ := slot_in g0
    subst e_t
    have hTS := tbS ht
    have hRS := h.ib.gr.rS ht
    refine wp_aload_n dX5_save_11 rfl ?_
    refine wp_getQ fX5_30 tA_8 rfl hC.f3 (by decide) (Nat.le_of_ble_eq_true rfl) dX5_save_12 ?_
    refine wp_iload_n dX5_save_15 rfl ?_
    refine wp_aalq (i := t) rfl (by rw [tA_153]; decide) (by rw [lA_153]; omega) (sl_r t ht) (by omega) (Nat.le_of_ble_eq_true rfl) dX5_save_16 ?_
    refine wp_aload_n dX5_save_17 rfl ?_
    refine wp_getQ fX5_10 tA_8 rfl hC.f0 (by decide) (Nat.le_of_ble_eq_true rfl) dX5_save_18 ?_
    refine wp_cV1 (z := mX4_copyFrom) (n' := 243) kX5_44 dX5_save_21 (Nat.le_of_ble_eq_true rfl) (Nat.le_of_ble_eq_true rfl) hTS.t0.1 (by have := hTS.lt; omega) (Nat.le_of_ble_eq_true rfl) (Nat.le_refl _) (Nat.le_refl _) (s_X4_copyFrom hTS hRS tb9 h9 (by omega) h.tk h.ok.1 (fun M1 g1 g2 => (wp_af0 ?_)))
    refine wp_aload_n dX5_save_24 rfl ?_
    refine wp_getQ fX5_34 tA_8 rfl hC.f4 (by decide) (Nat.le_of_ble_eq_true rfl) dX5_save_25 ?_
    refine wp_iload_n dX5_save_28 rfl ?_
    refine wp_iconst (v := 1) dX5_save_29 (by decide) ?_
    refine wp_zast (i := t) rfl tA_154 (Nat.le_of_ble_eq_true rfl) (by rw [lA_154]; omega) (by decide) (Nat.le_of_ble_eq_true rfl) dX5_save_30 ?_
    refine wp_aload_n dX5_save_31 rfl ?_
    refine wp_getQ fX5_10 tA_8 rfl hC.f0 (by decide) (Nat.le_of_ble_eq_true rfl) dX5_save_32 ?_
    refine wp_getJ fX5_100 tb9.t0.1 rfl (by have := tb9.lt; omega) dX5_save_35 ((by rw [u2_n _ _ _ (by decide), g1 9 (by omega)]; exact h.tk.cnp : _ = sg 4)) ?_
    exact wp_iret dX5_save_38 rfl rfl rfl (by
    refine hK t ht rfl _ ⟨h.tk.frame h9 h.ok.p6 h.ok.g4 fun a _ _ => ⟨by rw [u2_n _ _ _ (by omega), g1 a (by omega)], rfl⟩, h.ok, h.ib.gr, h.ib.2.1, h.ib.hi.fr h.ib.gr.rh h.ib.gr.rG h.ib.h6 h.ib.ho (by rw [u2_n _ _ _ (by decide), g1 31 (by omega)]) rfl (fun a _ _ => ⟨by rw [u2_n _ _ _ (by omega), g1 a (by omega)], rfl⟩), h.ib.ho, fun q hq => ?_, by rw [u2_n _ _ _ (by decide), g1 29 (by omega)]; exact h.ib.hp, fun i hi => by rw [u2_n _ _ _ (by decide), g1 30 (by omega)]; exact h.ib.pt hi⟩ (fun a ha => ⟨by rw [u2_n _ _ _ (by omega), g1 a (by omega)], rfl⟩)
    by_cases e : q = t
    · subst e
      refine ⟨by rw [u2_s, up_s, up_s], by rw [up_s]; exact Or.inr rfl, fun _ => ?_⟩
      rw [up_s]
      exact ⟨h.ok, g2.frame hRS h.ok.p6 h.ok.g4 fun a _ _ => ⟨u2_n _ _ _ (by omega), rfl⟩⟩
    · obtain ⟨k1, k2, k3⟩ := h.ib.sl hq
      refine ⟨by rw [u2_s, up_n _ _ e, up_n _ _ e, g1 154 (by omega)]; exact k1, by rw [up_n _ _ e]; exact k2, fun hn => ?_⟩
      rw [up_n _ _ e] at hn
      rw [up_n _ _ e]
      exact ⟨(k3 hn).1, (k3 hn).2.frame (h.ib.gr.rS hq) (k3 hn).1.p6 (k3 hn).1.g4 fun a _ _ => ⟨by rw [u2_n _ _ _ (by omega), g1 a (by omega)], rfl⟩⟩)
  · refine wp_bipush (v := (-2)) dX5_save_8 (by decide) ?_
    exact wp_iret dX5_save_10 rfl rfl rfl (hE (fun e => (out_2.mpr e) h5))

set_option maxRecDepth 100000 in
set_option maxHeartbeats 4000000 in
theorem s_X5_restore {γ : Gm} {l : Launch} {M : Mm} {R : Rm} {K : KT} {sg tx F : Nat → Int32} {rc pl : Nat} {hs S : Nat → Nat → Int32} {t0 : Int32}  (h : IC M R sg rc hs F S tx pl) (hE : ¬ (0 ≤ t0 ∧ t0 ≤ 1) → K (some (.int (-2))) 243 M R) (hE2 : ∀ t, t < 2 → t0 = nI t → F t = 0 → K (some (.int (-5))) 243 M R) (hK : ∀ t, t < 2 → t0 = nI t → ¬ F t = 0 → ∀ M1 R1, IC M1 R1 (S t) (rcN rc) (pshH rc hs sg) F S tx pl → FC M M1 R R1 → K (some (.int (S t 4))) 243 M1 R1) : CL γ l mX5_restore 4 243 243 [.ref 8, .int t0] M R K := by
  show WP γ l mX5_restore 4 243 243 0 [some (.ref 8), some (.int t0)] [] 243 M R K
  have hC := h.ib.gr.rc
  have h9 := h.ib.gr.r9
  have sl_r : ∀ t, t < 2 → R 153 t = 195 + 20 * t := fun t ht => by
    rcases (by omega : t = 0 ∨ t = 1) with e | e <;> subst e
    · exact hC.s0
    · exact hC.s1
  refine wp_iload_n dX5_restore_0 rfl ?_
  refine wp_iconst (v := 2) dX5_restore_1 (by decide) ?_
  refine wp_cS2 (z := mX5_isOutside) (n' := 243) kX5_78 dX5_restore_2 (Nat.le_of_ble_eq_true rfl) (Nat.le_of_ble_eq_true rfl) (Nat.le_of_ble_eq_true rfl) (Nat.le_refl _) (Nat.le_refl _) (s_X5_isOutside (wp_af ?_))
  refine wp_bq_eq (tgt := 11) dX5_restore_5 (by decide) (fun h5 => ?_) (fun h5 => ?_)
  · have g0 := out_2.mp h5
    obtain ⟨t, ht, e_t⟩ := slot_in g0
    subst e_t
    have hTS := tbS ht
    have hRS := h.ib.gr.rS ht
    refine wp_aload_n dX5_restore_11 rfl ?_
    refine wp_getQ fX5_34 tA_8 rfl hC.f4 (by decide) (Nat.le_of_ble_eq_true rfl) dX5_restore_12 ?_
    refine wp_iload_n dX5_restore_15 rfl ?_
    refine wp_zald (i := t) rfl tA_154 (Nat.le_of_ble_eq_true rfl) (by rw [lA_154]; omega) (Nat.le_of_ble_eq_true rfl) dX5_restore_16 ?_
    refine wp_top (h.ib.sl ht).1 ?_
    refine wp_if_ne (tgt := 23) dX5_restore_17 (by decide) (fun h17 => ?_) (fun h17 => ?_)
    · have hz : ¬ F t = 0 := h17
      obtain ⟨k1, k2, k3⟩ := h.ib.sl ht
      obtain ⟨k4, k5⟩ := k3 hz
      refine wp_aload_n dX5_restore_23 rfl ?_
      refine wp_getQ fX5_26 tA_8 rfl hC.f2 (by decide) (Nat.le_of_ble_eq_true rfl) dX5_restore_24 ?_
      refine wp_aload_n dX5_restore_27 rfl ?_
      refine wp_getQ fX5_10 tA_8 rfl hC.f0 (by decide) (Nat.le_of_ble_eq_true rfl) dX5_restore_28 ?_
      refine wp_cV1 (z := mX1_push) (n' := 243) kX5_75 dX5_restore_31 (Nat.le_of_ble_eq_true rfl) (Nat.le_of_ble_eq_true rfl) tA_31 (Nat.le_of_ble_eq_true rfl) (Nat.le_of_ble_eq_true rfl) (Nat.le_refl _) (Nat.le_refl _) (s_X1_push hC.h h.ib.gr.rh h.ib.gr.rG h.ib.hi h.ib.h6 h.ib.ho tb9 (by omega) h9 h.tk h.ok (fun M1 R1 g1 g2 g3 g4 => (wp_af0 ?_)))
      have h91 : RT R1 9 := h9.frame fun a _ _ => g2 a (by omega)
      have hRS1 : RT R1 (195 + 20 * t) := hRS.frame fun a _ _ => g2 a (by omega)
      have hC1 : RC R1 := hC.fr fun a _ ha => g2 a ha
      have k6 : Tk M1 R1 (195 + 20 * t) (nP (S t)) (nG (S t)) (S t) := k5.frame hRS k4.p6 k4.g4 fun a _ _ => ⟨g1 a (by omega) (by omega), g2 a (by omega)⟩
      refine wp_aload_n dX5_restore_34 rfl ?_
      refine wp_getQ fX5_10 tA_8 rfl hC1.f0 (by decide) (Nat.le_of_ble_eq_true rfl) dX5_restore_35 ?_
      refine wp_aload_n dX5_restore_38 rfl ?_
      refine wp_getQ fX5_30 tA_8 rfl hC1.f3 (by decide) (Nat.le_of_ble_eq_true rfl) dX5_restore_39 ?_
      refine wp_iload_n dX5_restore_42 rfl ?_
      refine wp_aalq (i := t) rfl (by rw [tA_153]; decide) (by rw [lA_153]; omega) ((congrFun (g2 153 (by omega)) t).trans (sl_r t ht)) (by omega) (Nat.le_of_ble_eq_true rfl) dX5_restore_43 ?_
      refine wp_cV1 (z := mX4_copyFrom) (n' := 243) kX5_44 dX5_restore_44 (Nat.le_of_ble_eq_true rfl) (Nat.le_of_ble_eq_true rfl) tb9.t0.1 (by have := tb9.lt; omega) (Nat.le_of_ble_eq_true rfl) (Nat.le_refl _) (Nat.le_refl _) (s_X4_copyFrom tb9 h91 hTS hRS1 (by omega) k6 k4.1 (fun M2 g5 g6 => (wp_af0 ?_)))
      refine wp_aload_n dX5_restore_47 rfl ?_
      refine wp_getQ fX5_10 tA_8 rfl hC1.f0 (by decide) (Nat.le_of_ble_eq_true rfl) dX5_restore_48 ?_
      refine wp_getJ fX5_100 tb9.t0.1 rfl (by have := tb9.lt; omega) dX5_restore_51 (g6.cnp) ?_
      exact wp_iret dX5_restore_54 rfl rfl rfl (by
        have h6 := h.ib.h6
        refine hK t ht rfl hz M2 R1 ⟨g6, k4, h.ib.gr.ch (fun a _ ha => g2 a ha) h91 g3, ⟨?_, h.ib.p80⟩, g4.fr g3 (fun k hk => (h.ib.gr.rG k hk).frame fun a _ _ => g2 a (by omega)) ?_ ?_ (by rw [g5 31 (by omega)]) rfl (fun a _ _ => ⟨g5 a (by omega), rfl⟩), ?_, fun q hq => (h.ib.sl hq).fr (h.ib.gr.rS hq) (by rw [g5 154 (by omega), g1 154 (by omega) (by omega)]) (fun a _ _ => ⟨by rw [g5 a (by omega), g1 a (by omega) (by omega)], g2 a (by omega)⟩), by rw [g5 29 (by omega), g1 29 (by omega) (by omega)]; exact h.ib.hp, fun i hi => by rw [g5 30 (by omega), g1 30 (by omega) (by omega)]; exact h.ib.pt hi⟩ (fun a ha => ⟨by rw [g5 a (by omega), g1 a (by omega) (by omega)], g2 a (by omega)⟩)
        · exact rcN_le h6
        · exact rcN_le h6
        · exact psh_ok h6 h.ib.ho h.ok
        · exact psh_ok h6 h.ib.ho h.ok)
    · have hz : F t = 0 := h17
      refine wp_bipush (v := (-5)) dX5_restore_20 (by decide) ?_
      exact wp_iret dX5_restore_22 rfl rfl rfl (hE2 t ht rfl hz)
  · refine wp_bipush (v := (-2)) dX5_restore_8 (by decide) ?_
    exact wp_iret dX5_restore_10 rfl rfl rfl (hE (fun e => (out_2.mpr e) h5))

