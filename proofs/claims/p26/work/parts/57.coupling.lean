/-! THE CLASS AND A STATE: what holds between calls -/
theorem tb9 : Tb 9 := Or.inl rfl
theorem tb155 : Tb 155 := by unfold Tb; omega
theorem tb175 : Tb 175 := by unfold Tb; omega
theorem tbS {t : Nat} (h : t < 2) : Tb (195 + 20 * t) := by unfold Tb; omega
/-- the references are as made, tank's order and history's order aside -/
def GR (R : Rm) : Prop := RC R ∧ RT R 9 ∧ RT R 155 ∧ RT R 175 ∧ (∀ t, t < 2 → RT R (195 + 20 * t)) ∧ RH R ∧ ∀ k, k < 6 → RT R (33 + 20 * k)
theorem RC.fr {R R1 : Rm} (h : RC R) (e : ∀ a, a ≠ 13 → a ≠ 32 → R1 a = R a) : RC R1 := by
  unfold RC at *
  rw [e 8 (by decide) (by decide), e 29 (by decide) (by decide), e 31 (by decide) (by decide), e 153 (by decide) (by decide)]
  exact h
theorem GR.ch {R R1 : Rm} (h : GR R) (e : ∀ a, a ≠ 13 → a ≠ 32 → R1 a = R a) (h9 : RT R1 9) (hh : RH R1) : GR R1 :=
  ⟨h.1.fr e, h9, h.2.2.1.frame fun a _ _ => e a (by omega) (by omega), h.2.2.2.1.frame fun a _ _ => e a (by omega) (by omega), fun t ht => (h.2.2.2.2.1 t ht).frame fun a _ _ => e a (by omega) (by omega), hh, fun k hk => (h.2.2.2.2.2.2 k hk).frame fun a _ _ => e a (by omega) (by omega)⟩
theorem GR.rc {R : Rm} (h : GR R) : RC R := h.1
theorem GR.r9 {R : Rm} (h : GR R) : RT R 9 := h.2.1
theorem GR.r155 {R : Rm} (h : GR R) : RT R 155 := h.2.2.1
theorem GR.r175 {R : Rm} (h : GR R) : RT R 175 := h.2.2.2.1
theorem GR.rS {R : Rm} (h : GR R) {t : Nat} (ht : t < 2) : RT R (195 + 20 * t) := h.2.2.2.2.1 t ht
theorem GR.rh {R : Rm} (h : GR R) : RH R := h.2.2.2.2.2.1
theorem GR.rG {R : Rm} (h : GR R) : ∀ k, k < 6 → RT R (33 + 20 * k) := h.2.2.2.2.2.2
def SlO (M : Mm) (R : Rm) (F : Nat → Int32) (S : Nat → Nat → Int32) (t : Nat) : Prop := M 154 t = F t ∧ (F t = 0 ∨ F t = 1) ∧ (¬ F t = 0 → OkS (S t) ∧ Tk M R (195 + 20 * t) (nP (S t)) (nG (S t)) (S t))
/-- all but the tank: history, slots, pad -/
def IB (M : Mm) (R : Rm) (rc : Nat) (hs : Nat → Nat → Int32) (F : Nat → Int32) (S : Nat → Nat → Int32) (tx : Nat → Int32) (pl : Nat) : Prop := GR R ∧ (rc ≤ 6 ∧ pl ≤ 80) ∧ HI M R rc hs ∧ (∀ i, i < rc → OkS (hs i)) ∧ (∀ t, t < 2 → SlO M R F S t) ∧ (M 29 1 = nI pl ∧ ∀ i, i < pl → M 30 i = tx i)
def IC (M : Mm) (R : Rm) (sg : Nat → Int32) (rc : Nat) (hs : Nat → Nat → Int32) (F : Nat → Int32) (S : Nat → Nat → Int32) (tx : Nat → Int32) (pl : Nat) : Prop := Tk M R 9 (nP sg) (nG sg) sg ∧ OkS sg ∧ IB M R rc hs F S tx pl
/-- the model's cells are untouched -/
def FC (M M1 : Mm) (R R1 : Rm) : Prop := ∀ a, 235 ≤ a → M1 a = M a ∧ R1 a = R a
theorem FC.rf (M : Mm) (R : Rm) : FC M M R R := fun _ _ => ⟨rfl, rfl⟩
theorem FC.tr {M M1 M2 : Mm} {R R1 R2 : Rm} (h : FC M M1 R R1) (h2 : FC M1 M2 R1 R2) : FC M M2 R R2 := fun a ha => ⟨(h2 a ha).1.trans (h a ha).1, (h2 a ha).2.trans (h a ha).2⟩
section
variable {M M1 M2 : Mm} {R R1 R2 : Rm} {sg tx F : Nat → Int32} {rc pl : Nat} {hs S : Nat → Nat → Int32}
theorem IC.tk (h : IC M R sg rc hs F S tx pl) : Tk M R 9 (nP sg) (nG sg) sg := h.1
theorem IC.ok (h : IC M R sg rc hs F S tx pl) : OkS sg := h.2.1
theorem IC.ib (h : IC M R sg rc hs F S tx pl) : IB M R rc hs F S tx pl := h.2.2
theorem IB.gr (h : IB M R rc hs F S tx pl) : GR R := h.1
theorem IB.h6 (h : IB M R rc hs F S tx pl) : rc ≤ 6 := h.2.1.1
theorem IB.p80 (h : IB M R rc hs F S tx pl) : pl ≤ 80 := h.2.1.2
theorem IB.hi (h : IB M R rc hs F S tx pl) : HI M R rc hs := h.2.2.1
theorem IB.ho (h : IB M R rc hs F S tx pl) : ∀ i, i < rc → OkS (hs i) := h.2.2.2.1
theorem IB.sl (h : IB M R rc hs F S tx pl) {t : Nat} (ht : t < 2) : SlO M R F S t := h.2.2.2.2.1 t ht
theorem IB.hp (h : IB M R rc hs F S tx pl) : M 29 1 = nI pl := h.2.2.2.2.2.1
theorem IB.pt (h : IB M R rc hs F S tx pl) {i : Nat} (hi : i < pl) : M 30 i = tx i := h.2.2.2.2.2.2 i hi
theorem SlO.fr {t : Nat} (h : SlO M R F S t) (hR : RT R (195 + 20 * t)) (e0 : M1 154 = M 154) (e : ∀ a, 195 + 20 * t ≤ a → a < 215 + 20 * t → M1 a = M a ∧ R1 a = R a) : SlO M1 R1 F S t :=
  ⟨by rw [e0]; exact h.1, h.2.1, fun hn => ⟨(h.2.2 hn).1, (h.2.2 hn).2.frame hR (h.2.2 hn).1.p6 (h.2.2 hn).1.g4 fun a h1 h2 => e a h1 (by omega)⟩⟩
theorem HI.fr (h : HI M R rc hs) (hH : RH R) (hG : ∀ k, k < 6 → RT R (33 + 20 * k)) (h6 : rc ≤ 6) (ho : ∀ i, i < rc → OkS (hs i)) (e1 : M1 31 1 = M 31 1) (e2 : R1 32 = R 32) (e : ∀ a, 33 ≤ a → a < 153 → M1 a = M a ∧ R1 a = R a) : HI M1 R1 rc hs := by
  refine ⟨e1.trans h.1, fun i hi => ?_⟩
  have := hH.rng (i := i) (by omega)
  rw [e2]
  exact (h.2 i hi).frame (hH.rt hG (by omega)) (ho i hi).p6 (ho i hi).g4 fun a h1 h2 => e a (by omega) (by omega)
theorem IB.fr (h : IB M R rc hs F S tx pl) (e : ∀ a, 30 ≤ a → a < 235 → (a < 155 ∨ 195 ≤ a) → M1 a = M a) (e29 : M1 29 1 = M 29 1) (eR : ∀ a, a ≠ 13 → R1 a = R a) (h9 : RT R1 9) : IB M1 R1 rc hs F S tx pl := by
  have eh : RH R1 := by
    have := h.gr.rh
    unfold RH at *
    rw [eR 32 (by decide)]
    exact this
  refine ⟨h.gr.ch (fun a h1 _ => eR a h1) h9 eh, h.2.1, h.hi.fr h.gr.rh h.gr.rG h.h6 h.ho (by rw [e 31 (by omega) (by omega) (by omega)]) (eR 32 (by decide)) (fun a h1 h2 => ⟨e a (by omega) (by omega) (by omega), eR a (by omega)⟩), h.ho, fun t ht => (h.sl ht).fr (h.gr.rS ht) (e 154 (by omega) (by omega) (by omega)) (fun a h1 h2 => ⟨e a (by omega) (by omega) (by omega), eR a (by omega)⟩), e29.trans h.hp, fun i hi => ?_⟩
  rw [e 30 (by omega) (by omega) (by omega)]
  exact h.pt hi
/-- a tank beside was written -/
theorem IC.side (h : IC M R sg rc hs F S tx pl) {b : Nat} (hb : b = 155 ∨ b = 175) (g : FrM b M M1) : IC M1 R sg rc hs F S tx pl :=
  ⟨h.tk.frame h.ib.gr.r9 h.ok.p6 h.ok.g4 fun a _ _ => ⟨g a (by omega), rfl⟩, h.ok, h.ib.fr (fun a _ _ _ => g a (by omega)) (by rw [g 29 (by omega)]) (fun _ _ => rfl) h.ib.gr.r9⟩
/-- the tank was changed -/
theorem IC.chg (h : IC M R sg rc hs F S tx pl) (g : FrM 9 M M1) (gr : FrR 9 R R1) (g9 : RT R1 9) : IB M1 R1 rc hs F S tx pl :=
  h.ib.fr (fun a _ _ _ => g a (by omega)) (by rw [g 29 (by omega)]) (fun a ha => gr a ha) g9
end
theorem pc_nat (sg : Nat → Int32) : ∀ k, ∃ q, q ≤ k ∧ pcN sg k = nI q
  | 0 => ⟨0, Nat.le_refl _, rfl⟩
  | k + 1 => by
    obtain ⟨q, h1, h2⟩ := pc_nat sg k
    have : pc1 (paN sg k) k = nI 0 ∨ pc1 (paN sg k) k = nI 1 := by
      unfold pc1
      repeat' split
      · exact Or.inr rfl
      · exact Or.inl rfl
      · exact Or.inl rfl
    rcases this with e | e
    · exact ⟨q, by omega, by rw [pcN, h2, e, nI_add, Nat.add_zero]⟩
    · exact ⟨q + 1, by omega, by rw [pcN, h2, e, nI_add]⟩
theorem psC_nat (np ng : Nat) (sg : Nat → Int32) : ∀ k, ∃ q, q ≤ np * k ∧ psC np ng sg k = nI q
  | 0 => ⟨0, Nat.zero_le _, rfl⟩
  | k + 1 => by
    obtain ⟨q, h1, h2⟩ := psC_nat np ng sg k
    obtain ⟨w, h3, h4⟩ := pc_nat (psF np ng sg k) np
    exact ⟨q + w, by rw [Nat.mul_succ]; omega, by rw [psC, h2, h4, nI_add]⟩
theorem psC_ge {np ng m : Nat} {sg : Nat → Int32} (h6 : np ≤ 6) (hm : m < 100) : ¬ psC np ng sg m < 0 := by
  obtain ⟨q, h1, h2⟩ := psC_nat np ng sg m
  have : np * m ≤ 6 * m := Nat.mul_le_mul_right _ h6
  rw [h2]
  exact nI_pos (by omega)
theorem st_set {sg : Nat → Int32} {k : Nat} {v : Int32} (h : StOk sg) (hk : k < 3) (hs : svOk (nI k) v) : StOk (up sg k v) := by
  unfold StOk at *
  rcases (by omega : k = 0 ∨ k = 1 ∨ k = 2) with e | e | e <;> subst e
  · rw [up_s, up_n _ _ (by decide), up_n _ _ (by decide)]
    exact ⟨hs.elim (fun h => h.2) (fun h => h.elim (fun h => absurd h.1 (by decide)) (fun h => absurd h.1 (by decide))), h.2⟩
  · rw [up_s, up_n _ _ (by decide), up_n _ _ (by decide)]
    exact ⟨h.1, hs.elim (fun h => absurd h.1 (by decide)) (fun h => h.elim (fun h => h.2) (fun h => absurd h.1 (by decide))), h.2.2⟩
  · rw [up_s, up_n _ _ (by decide), up_n _ _ (by decide)]
    exact ⟨h.1, h.2.1, hs.elim (fun h => absurd h.1 (by decide)) (fun h => h.elim (fun h => absurd h.1 (by decide)) (fun h => h.2))⟩
theorem st_ge {sg : Nat → Int32} {k : Nat} (h : StOk sg) (hk : k < 3) : ¬ sg k < 0 := by
  obtain ⟨h1, h2, h3⟩ := h
  rcases (by omega : k = 0 ∨ k = 1 ∨ k = 2) with e | e | e <;> subst e
  · exact Int32.not_lt.mpr h1.1
  · exact Int32.not_lt.mpr h2.1
  · exact Int32.not_lt.mpr (Int32.le_trans (by decide) h3.1)
theorem bd_ge {v : Int32} (h : bd v) : ¬ v + 10000 < 0 := by
  rw [bd_int] at h
  rw [Int32.lt_iff_toInt_lt, add_int (by rw [show (10000 : Int32).toInt = 10000 by decide]; omega) (by rw [show (10000 : Int32).toInt = 10000 by decide]; omega), show (10000 : Int32).toInt = 10000 by decide, show (0 : Int32).toInt = 0 by decide]
  omega
set_option maxRecDepth 100000 in
set_option maxHeartbeats 4000000 in
theorem s_X5_recorded {γ : Gm} {l : Launch} {M : Mm} {R : Rm} {K : KT} {sg tx F : Nat → Int32} {rc pl : Nat} {hs S : Nat → Nat → Int32} {res : Int32} (h : IB M R rc hs F S tx pl) (hb : Tk M R 155 (nP sg) (nG sg) sg) (ho : OkS sg) (hE : res < 0 → K (some (.int res)) 247 M R) (hK : ¬ res < 0 → ∀ M1 R1, IB M1 R1 (rcN rc) (pshH rc hs sg) F S tx pl → (∀ a, (a < 29 ∨ 153 ≤ a) → M1 a = M a) → (∀ a, a ≠ 32 → R1 a = R a) → K (some (.int res)) 247 M1 R1) : CL γ l mX5_recorded 4 247 247 [.ref 8, .int res] M R K := by
  show WP γ l mX5_recorded 4 247 247 0 [some (.ref 8), some (.int res)] [] 247 M R K
  have hC := h.gr.rc
  refine wp_iload_n dX5_recorded_0 rfl ?_
  refine wp_if_lt (tgt := 15) dX5_recorded_1 (by decide) (fun h1 => ?_) (fun h1 => ?_)
  · refine wp_iload_n dX5_recorded_15 rfl ?_
    exact wp_iret dX5_recorded_16 rfl rfl rfl (by
  first
    | exact hE h1
    | (have h6 := h.h6
       refine hK h1 M1 R1 ⟨h.gr.ch (fun a _ ha => g2 a ha) (h.gr.r9.frame fun a _ _ => g2 a (by omega)) g3, ⟨?_, h.p80⟩, g4, fun i hi => ?_, fun t ht => (h.sl ht).fr (h.gr.rS ht) (g1 154 (by omega) (by omega)) (fun a _ _ => ⟨g1 a (by omega) (by omega), g2 a (by omega)⟩), by rw [g1 29 (by omega) (by omega)]; exact h.hp, fun i hi => by rw [g1 30 (by omega) (by omega)]; exact h.pt hi⟩ (fun a ha => g1 a (by omega) (by omega)) g2
       · unfold rcN
         split <;> omega
       · unfold rcN at hi
         show OkS (if i = (if rc = 6 then 5 else rc) then sg else hs (if rc = 6 then i + 1 else i))
         by_cases e : rc = 6
         · rw [if_pos e] at hi ⊢
           rw [if_pos e]
           by_cases e2 : i = 5
           · rw [if_pos e2]
             exact ho
           · rw [if_neg e2]
             exact h.ho _ (by omega)
         · rw [if_neg e] at hi ⊢
           rw [if_neg e]
           by_cases e2 : i = rc
           · rw [if_pos e2]
             exact ho
           · rw [if_neg e2]
             exact h.ho _ (by omega)))
  · refine wp_aload_n dX5_recorded_4 rfl ?_
    refine wp_getQ fX5_26 tA_8 rfl hC.f2 (by decide) (Nat.le_of_ble_eq_true rfl) dX5_recorded_5 ?_
    refine wp_aload_n dX5_recorded_8 rfl ?_
    refine wp_getQ fX5_38 tA_8 rfl hC.f5 (by decide) (Nat.le_of_ble_eq_true rfl) dX5_recorded_9 ?_
    refine wp_cV1 (z := mX1_push) (n' := 247) kX5_75 dX5_recorded_12 (Nat.le_of_ble_eq_true rfl) (Nat.le_of_ble_eq_true rfl) tA_31 (Nat.le_of_ble_eq_true rfl) (Nat.le_of_ble_eq_true rfl) (Nat.le_refl _) (Nat.le_refl _) (s_X1_push hC.h h.gr.rh h.gr.rG h.hi h.h6 h.ho tb155 (by omega) h.gr.r155 hb ho (fun M1 R1 g1 g2 g3 g4 => (wp_af0 ?_)))
    refine wp_iload_n dX5_recorded_15 rfl ?_
    exact wp_iret dX5_recorded_16 rfl rfl rfl (by
  first
    | exact hE h1
    | (have h6 := h.h6
       refine hK h1 M1 R1 ⟨h.gr.ch (fun a _ ha => g2 a ha) (h.gr.r9.frame fun a _ _ => g2 a (by omega)) g3, ⟨?_, h.p80⟩, g4, fun i hi => ?_, fun t ht => (h.sl ht).fr (h.gr.rS ht) (g1 154 (by omega) (by omega)) (fun a _ _ => ⟨g1 a (by omega) (by omega), g2 a (by omega)⟩), by rw [g1 29 (by omega) (by omega)]; exact h.hp, fun i hi => by rw [g1 30 (by omega) (by omega)]; exact h.pt hi⟩ (fun a ha => g1 a (by omega) (by omega)) g2
       · unfold rcN
         split <;> omega
       · unfold rcN at hi
         show OkS (if i = (if rc = 6 then 5 else rc) then sg else hs (if rc = 6 then i + 1 else i))
         by_cases e : rc = 6
         · rw [if_pos e] at hi ⊢
           rw [if_pos e]
           by_cases e2 : i = 5
           · rw [if_pos e2]
             exact ho
           · rw [if_neg e2]
             exact h.ho _ (by omega)
         · rw [if_neg e] at hi ⊢
           rw [if_neg e]
           by_cases e2 : i = rc
           · rw [if_pos e2]
             exact ho
           · rw [if_neg e2]
             exact h.ho _ (by omega)))
