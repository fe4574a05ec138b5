/-! THE REFERENCE: the reading of texts -/
abbrev nx (tx : Nat → Int32) (pl a : Nat) (c : Int32) : Prop := a < pl ∧ tx a = c
abbrev dg (tx : Nat → Int32) (pl a : Nat) : Prop := a < pl ∧ (48 ≤ tx a ∧ tx a ≤ 57)
def dn (tx : Nat → Int32) (a : Nat) : Nat := (tx a - 48).toNatClampNeg
def chI (tx : Nat → Int32) (pl a : Nat) : Int32 := if a < pl then tx a else -1
theorem chI_nx {tx : Nat → Int32} {pl a : Nat} {c : Int32} (hc : ¬ c = -1) : chI tx pl a = c ↔ nx tx pl a c := by
  unfold chI
  by_cases h : a < pl
  · rw [if_pos h]
    exact ⟨fun e => ⟨h, e⟩, fun e => e.2⟩
  · rw [if_neg h]
    exact ⟨fun e => absurd e.symm hc, fun e => absurd e.1 h⟩
theorem chI_dg {tx : Nat → Int32} {pl a : Nat} : (48 ≤ chI tx pl a ∧ chI tx pl a ≤ 57) ↔ dg tx pl a := by
  unfold chI
  by_cases h : a < pl
  · rw [if_pos h]
    exact ⟨fun e => ⟨h, e⟩, fun e => e.2⟩
  · rw [if_neg h]
    exact ⟨fun e => absurd e.1 (by decide), fun e => absurd e.1 h⟩
theorem dg_dn {tx : Nat → Int32} {pl a : Nat} (h : dg tx pl a) : chI tx pl a - 48 = nI (dn tx a) ∧ dn tx a ≤ 9 := by
  rw [chI, if_pos h.1]
  obtain ⟨-, h1, h2⟩ := h
  have e : (tx a - 48).toInt = (tx a).toInt - 48 := by
    have a1 := Int32.le_iff_toInt_le.mp h1
    have a2 := Int32.le_iff_toInt_le.mp h2
    rw [show (48 : Int32).toInt = 48 by decide] at a1
    rw [show (57 : Int32).toInt = 57 by decide] at a2
    rw [sub_int (by rw [show (48 : Int32).toInt = 48 by decide]; omega) (by rw [show (48 : Int32).toInt = 48 by decide]; omega)]
    rfl
  have a1 := Int32.le_iff_toInt_le.mp h1
  have a2 := Int32.le_iff_toInt_le.mp h2
  rw [show (48 : Int32).toInt = 48 by decide] at a1
  rw [show (57 : Int32).toInt = 57 by decide] at a2
  obtain ⟨j, hj, e2⟩ := nI_of2 (M := 9) (n := 9) (x := tx a - 48) (by decide) (by rw [Int32.lt_iff_toInt_lt, e, show (0 : Int32).toInt = 0 by decide]; omega) (by rw [Int32.le_iff_toInt_le, e, show (9 : Int32).toInt = 9 by decide]; omega)
  have e3 : dn tx a = j := by rw [dn, e2, nI_clamp (by omega)]
  rw [e3]
  exact ⟨e2, hj⟩
theorem dg_more {tx : Nat → Int32} {pl e v : Nat} (h : dg tx pl e) : (10 : Int32) * nI v + chI tx pl e - 48 = nI (10 * v + dn tx e) := by
  rw [Int32.sub_eq_add_neg, Int32.add_assoc, ← Int32.sub_eq_add_neg, (dg_dn h).1]
  show nI 10 * nI v + _ = _
  rw [pk_mul, nI_add]
def rdN (tx : Nat → Int32) (pl a : Nat) : Option (Nat × Nat) :=
  if dg tx pl a then
    if 0 < dn tx a ∧ dg tx pl (a + 1) then
      if dg tx pl (a + 2) then some (10 * (10 * dn tx a + dn tx (a + 1)) + dn tx (a + 2), a + 3) else some (10 * dn tx a + dn tx (a + 1), a + 2)
    else some (dn tx a, a + 1)
  else none
theorem rdN_in {tx : Nat → Int32} {pl a v e : Nat} (h : rdN tx pl a = some (v, e)) : a < e ∧ e ≤ pl ∧ e ≤ a + 3 ∧ v ≤ 999 := by
  unfold rdN at h
  by_cases h1 : dg tx pl a
  · have d1 := (dg_dn h1).2
    have p1 := h1.1
    rw [if_pos h1] at h
    by_cases h2 : 0 < dn tx a ∧ dg tx pl (a + 1)
    · have d2 := (dg_dn h2.2).2
      have p2 := h2.2.1
      rw [if_pos h2] at h
      by_cases h3 : dg tx pl (a + 2)
      · have d3 := (dg_dn h3).2
        have p3 := h3.1
        rw [if_pos h3] at h
        cases h
        omega
      · rw [if_neg h3] at h
        cases h
        omega
    · rw [if_neg h2] at h
      cases h
      omega
  · rw [if_neg h1] at h
    cases h
def vF (tx : Nat → Int32) (pl a : Nat) : Nat := if nx tx pl a 45 then a + 1 else a
def rdV (tx : Nat → Int32) (pl a : Nat) : Option (Int32 × Nat) :=
  (rdN tx pl (vF tx pl a)).map fun q => ((if nx tx pl a 45 then -1 else 1) * nI q.1, q.2)
def rdS (tx : Nat → Int32) (pl a : Nat) : Option Nat :=
  if nx tx pl a 102 then some 0 else if nx tx pl a 115 then some 1 else if nx tx pl a 98 then some 2 else if nx tx pl a 116 then some 3 else none
/-- M is M0 but for the reading: at a, m numbers nb, the letter lt, the sort so -/
def PS (M0 M : Mm) (tx : Nat → Int32) (pl a m : Nat) (nb : Nat → Int32) (lt so : Int32) : Prop := (∀ q, q ≠ 235 → q ≠ 242 → M q = M0 q) ∧ (∀ k, k ≠ 8 → k ≠ 9 → k ≠ 10 → k ≠ 12 → M 235 k = M0 235 k) ∧ M 241 = tx ∧ M 235 7 = nI pl ∧ M 235 8 = nI a ∧ M 235 12 = nI m ∧ M 242 = nb ∧ M 235 9 = lt ∧ M 235 10 = so
section
variable {M0 M : Mm} {tx nb : Nat → Int32} {pl a m : Nat} {lt so : Int32}
theorem PS.ptx (h : PS M0 M tx pl a m nb lt so) : M 241 = tx := h.2.2.1
theorem PS.ppl (h : PS M0 M tx pl a m nb lt so) : M 235 7 = nI pl := h.2.2.2.1
theorem PS.pa (h : PS M0 M tx pl a m nb lt so) : M 235 8 = nI a := h.2.2.2.2.1
theorem PS.pm (h : PS M0 M tx pl a m nb lt so) : M 235 12 = nI m := h.2.2.2.2.2.1
theorem PS.pnb (h : PS M0 M tx pl a m nb lt so) : M 242 = nb := h.2.2.2.2.2.2.1
theorem PS.plt (h : PS M0 M tx pl a m nb lt so) : M 235 9 = lt := h.2.2.2.2.2.2.2.1
theorem PS.pso (h : PS M0 M tx pl a m nb lt so) : M 235 10 = so := h.2.2.2.2.2.2.2.2
theorem PS.u8 (h : PS M0 M tx pl a m nb lt so) (e : Nat) : PS M0 (u2 M 235 8 (nI e)) tx pl e m nb lt so := by
  obtain ⟨h1, h2, h3, h4, h5, h6, h7, h8, h9⟩ := h
  refine ⟨fun q q1 q2 => by rw [u2_n _ _ _ q1]; exact h1 q q1 q2, fun k k1 k2 k3 k4 => by rw [u2_s, up_n _ _ k1]; exact h2 k k1 k2 k3 k4, by rw [u2_n _ _ _ (by decide)]; exact h3, by rw [u2_s, up_n _ _ (by decide)]; exact h4, by rw [u2_s, up_s], by rw [u2_s, up_n _ _ (by decide)]; exact h6, by rw [u2_n _ _ _ (by decide)]; exact h7, by rw [u2_s, up_n _ _ (by decide)]; exact h8, by rw [u2_s, up_n _ _ (by decide)]; exact h9⟩
theorem so_at {v : Int32} (h : PS M0 M tx pl a m nb lt so) : (u2 M 235 8 v) 235 10 = so := by rw [u2_s, up_n _ _ (by decide)]; exact h.pso
theorem PS.u9 (h : PS M0 M tx pl a m nb lt so) (e : Int32) : PS M0 (u2 M 235 9 e) tx pl a m nb e so := by
  obtain ⟨h1, h2, h3, h4, h5, h6, h7, h8, h9⟩ := h
  refine ⟨fun q q1 q2 => by rw [u2_n _ _ _ q1]; exact h1 q q1 q2, fun k k1 k2 k3 k4 => by rw [u2_s, up_n _ _ k2]; exact h2 k k1 k2 k3 k4, by rw [u2_n _ _ _ (by decide)]; exact h3, by rw [u2_s, up_n _ _ (by decide)]; exact h4, by rw [u2_s, up_n _ _ (by decide)]; exact h5, by rw [u2_s, up_n _ _ (by decide)]; exact h6, by rw [u2_n _ _ _ (by decide)]; exact h7, by rw [u2_s, up_s], by rw [u2_s, up_n _ _ (by decide)]; exact h9⟩
theorem PS.u10 (h : PS M0 M tx pl a m nb lt so) (e : Int32) : PS M0 (u2 M 235 10 e) tx pl a m nb lt e := by
  obtain ⟨h1, h2, h3, h4, h5, h6, h7, h8, h9⟩ := h
  refine ⟨fun q q1 q2 => by rw [u2_n _ _ _ q1]; exact h1 q q1 q2, fun k k1 k2 k3 k4 => by rw [u2_s, up_n _ _ k3]; exact h2 k k1 k2 k3 k4, by rw [u2_n _ _ _ (by decide)]; exact h3, by rw [u2_s, up_n _ _ (by decide)]; exact h4, by rw [u2_s, up_n _ _ (by decide)]; exact h5, by rw [u2_s, up_n _ _ (by decide)]; exact h6, by rw [u2_n _ _ _ (by decide)]; exact h7, by rw [u2_s, up_n _ _ (by decide)]; exact h8, by rw [u2_s, up_s]⟩
theorem PS.u12 (h : PS M0 M tx pl a m nb lt so) (e : Nat) : PS M0 (u2 M 235 12 (nI e)) tx pl a e nb lt so := by
  obtain ⟨h1, h2, h3, h4, h5, h6, h7, h8, h9⟩ := h
  refine ⟨fun q q1 q2 => by rw [u2_n _ _ _ q1]; exact h1 q q1 q2, fun k k1 k2 k3 k4 => by rw [u2_s, up_n _ _ k4]; exact h2 k k1 k2 k3 k4, by rw [u2_n _ _ _ (by decide)]; exact h3, by rw [u2_s, up_n _ _ (by decide)]; exact h4, by rw [u2_s, up_n _ _ (by decide)]; exact h5, by rw [u2_s, up_s], by rw [u2_n _ _ _ (by decide)]; exact h7, by rw [u2_s, up_n _ _ (by decide)]; exact h8, by rw [u2_s, up_n _ _ (by decide)]; exact h9⟩
theorem PS.un (h : PS M0 M tx pl a m nb lt so) (j : Nat) (e : Int32) : PS M0 (u2 M 242 j e) tx pl a m (up nb j e) lt so := by
  obtain ⟨h1, h2, h3, h4, h5, h6, h7, h8, h9⟩ := h
  refine ⟨fun q q1 q2 => by rw [u2_n _ _ _ q2]; exact h1 q q1 q2, fun k k1 k2 k3 k4 => by rw [u2_n _ _ _ (by decide)]; exact h2 k k1 k2 k3 k4, by rw [u2_n _ _ _ (by decide)]; exact h3, by rw [u2_n _ _ _ (by decide)]; exact h4, by rw [u2_n _ _ _ (by decide)]; exact h5, by rw [u2_n _ _ _ (by decide)]; exact h6, by rw [u2_s, h7], by rw [u2_n _ _ _ (by decide)]; exact h8, by rw [u2_n _ _ _ (by decide)]; exact h9⟩
end
/-- after a number was asked for -/
def TN (M0 M : Mm) (tx : Nat → Int32) (pl a m : Nat) (nb : Nat → Int32) (lt so sgn : Int32) : Prop := (rdN tx pl a = none → PS M0 M tx pl a m nb lt so) ∧ ∀ v e, rdN tx pl a = some (v, e) → PS M0 M tx pl e (m + 1) (up nb m (sgn * nI v)) lt so
def TV (M0 M : Mm) (tx : Nat → Int32) (pl a m : Nat) (nb : Nat → Int32) (lt so : Int32) : Prop := (rdV tx pl a = none → PS M0 M tx pl (vF tx pl a) m nb lt so) ∧ ∀ v e, rdV tx pl a = some (v, e) → PS M0 M tx pl e (m + 1) (up nb m v) lt so
def TS (M0 M : Mm) (tx : Nat → Int32) (pl a m : Nat) (nb : Nat → Int32) (lt : Int32) : Prop := (rdS tx pl a = none → PS M0 M tx pl a m nb lt (-6)) ∧ ∀ s, rdS tx pl a = some s → PS M0 M tx pl (a + 1) m nb lt (nI s)
theorem tv_of {M0 M : Mm} {tx nb : Nat → Int32} {pl a b m : Nat} {lt so sgn : Int32} (eF : vF tx pl a = b) (e1 : rdV tx pl a = (rdN tx pl b).map fun q => (sgn * nI q.1, q.2)) (h : TN M0 M tx pl b m nb lt so sgn) : TV M0 M tx pl a m nb lt so := by
  refine ⟨fun h0 => ?_, fun v e h0 => ?_⟩
  · rw [eF]
    refine h.1 ?_
    rw [e1] at h0
    exact Option.map_eq_none_iff.mp h0
  · rw [e1] at h0
    obtain ⟨⟨v2, e2⟩, h2, h3⟩ := Option.map_eq_some_iff.mp h0
    cases h3
    exact h.2 v2 e2 h2
set_option maxRecDepth 100000 in
set_option maxHeartbeats 4000000 in
theorem s_X6_character {γ : Gm} {l : Launch} {M : Mm} {R : Rm} {K : KT} {tx : Nat → Int32} {pl a : Nat}  (hM : RM R) (htx : M 241 = tx) (hpl : M 235 7 = nI pl) (hp : pl ≤ 80) (ha : a ≤ 300) (hK : K (some (.int (chI tx pl a))) 243 M R) : CL γ l mX6_character 0 243 243 [.ref 235, .int (nI a)] M R K := by
  show WP γ l mX6_character 0 243 243 0 [some (.ref 235), some (.int (nI a))] [] 243 M R K
  refine wp_iload_n dX6_character_0 rfl ?_
  refine wp_aload_n dX6_character_1 rfl ?_
  refine wp_getJ (v := nI pl) fX6_162 tA_235 rfl (Nat.le_of_ble_eq_true rfl) dX6_character_2 (hpl) ?_
  refine wp_icN_ge (a := a) (b := pl) (tgt := 17) dX6_character_5 (by decide) rfl rfl (by omega) (by omega) (fun h5 => ?_) (fun h5 => ?_)
  · refine wp_iconst (v := (-1)) dX6_character_17 (by decide) ?_
    exact wp_iret dX6_character_18 rfl rfl rfl (by rw [chI] at hK; first | (rw [if_pos h5] at hK; exact hK) | (rw [if_neg (by omega)] at hK; exact hK))
  · refine wp_aload_n dX6_character_8 rfl ?_
    refine wp_getQ fX6_25 tA_235 rfl hM.f6 (by decide) (Nat.le_of_ble_eq_true rfl) dX6_character_9 ?_
    refine wp_iload_n dX6_character_12 rfl ?_
    refine wp_iadn (i := a) rfl tA_241 (Nat.le_of_ble_eq_true rfl) (by rw [lA_241]; omega) (Nat.le_of_ble_eq_true rfl) dX6_character_13 (congrFun htx _) ?_
    refine wp_goto (tgt := 18) dX6_character_14 (by decide) ?_
    exact wp_iret dX6_character_18 rfl rfl rfl (by rw [chI] at hK; first | (rw [if_pos h5] at hK; exact hK) | (rw [if_neg (by omega)] at hK; exact hK))

set_option maxRecDepth 100000 in
set_option maxHeartbeats 4000000 in
theorem s_X6_isNext {γ : Gm} {l : Launch} {M : Mm} {R : Rm} {K : KT} {M0 : Mm} {tx nb : Nat → Int32} {pl a m : Nat} {lt so : Int32} {c : Int32} (hM : RM R) (hX : PS M0 M tx pl a m nb lt so) (hp : pl ≤ 80) (ha : a ≤ 201) (hc : ¬ c = -1) (hK : ∀ M1, PS M0 M1 tx pl (if nx tx pl a c then a + 1 else a) m nb lt so → K (some (.int (b01 (nx tx pl a c)))) 243 M1 R) : CL γ l mX6_isNext 1 243 243 [.ref 235, .int c] M R K := by
  show WP γ l mX6_isNext 1 243 243 0 [some (.ref 235), some (.int c), none] [] 243 M R K
  refine wp_aload_n dX6_isNext_0 rfl ?_
  refine wp_aload_n dX6_isNext_1 rfl ?_
  refine wp_getJ (v := nI a) fX6_167 tA_235 rfl (Nat.le_of_ble_eq_true rfl) dX6_isNext_2 (hX.pa) ?_
  refine wp_cV1 (z := mX6_character) (n' := 243) kX6_170 dX6_isNext_5 (Nat.le_of_ble_eq_true rfl) (Nat.le_of_ble_eq_true rfl) tA_235 (Nat.le_of_ble_eq_true rfl) (Nat.le_of_ble_eq_true rfl) (Nat.le_refl _) (Nat.le_refl _) (s_X6_character hM hX.ptx hX.ppl hp (by omega) (wp_af ?_))
  refine wp_iload_n dX6_isNext_8 rfl ?_
  refine wp_icmp_ne (tgt := 16) dX6_isNext_9 (by decide) (fun h9 => ?_) (fun h9 => ?_)
  · have g9 := fun e => h9 ((chI_nx hc).mpr e)
    rw [b01_f g9] at hK
    refine wp_iconst (v := 0) dX6_isNext_16 (by decide) ?_
    refine wp_istore_n (L' := [some (.ref 235), some (.int c), some (.int _)]) dX6_isNext_17 (by decide) rfl ?_
    refine wp_aload_n dX6_isNext_18 rfl ?_
    refine wp_dup dX6_isNext_19 rfl ?_
    refine wp_getJ (v := nI a) fX6_167 tA_235 rfl (Nat.le_of_ble_eq_true rfl) dX6_isNext_20 (hX.pa) ?_
    refine wp_iload_n dX6_isNext_23 rfl ?_
    refine wp_ifN_eq (a := 0) (tgt := 31) dX6_isNext_24 (by decide) rfl (by omega) (fun _ => ?_) (fun h => absurd h (by decide))
    refine wp_iconst (v := 0) dX6_isNext_31 (by decide) ?_
    refine wp_iadd dX6_isNext_32 ?_
    refine wp_top (z := nI (if nx tx pl a c then a + 1 else a)) (by first | (rw [if_neg g9]; exact nI_add a 0) | (rw [if_pos g9]; exact nI_add a 1)) ?_
    refine wp_putI pX6_167 tA_235 rfl ⟨rfl, rfl⟩ (Nat.le_of_ble_eq_true rfl) dX6_isNext_33 ?_
    refine wp_iload_n dX6_isNext_36 rfl ?_
    exact wp_iret dX6_isNext_37 rfl rfl rfl (hK _ (hX.u8 _))
  · have g9 := (chI_nx hc).mp h9
    rw [b01_t g9] at hK
    refine wp_iconst (v := 1) dX6_isNext_12 (by decide) ?_
    refine wp_goto (tgt := 17) dX6_isNext_13 (by decide) ?_
    refine wp_istore_n (L' := [some (.ref 235), some (.int c), some (.int _)]) dX6_isNext_17 (by decide) rfl ?_
    refine wp_aload_n dX6_isNext_18 rfl ?_
    refine wp_dup dX6_isNext_19 rfl ?_
    refine wp_getJ (v := nI a) fX6_167 tA_235 rfl (Nat.le_of_ble_eq_true rfl) dX6_isNext_20 (hX.pa) ?_
    refine wp_iload_n dX6_isNext_23 rfl ?_
    refine wp_ifN_eq (a := 1) (tgt := 31) dX6_isNext_24 (by decide) rfl (by omega) (fun h => absurd h (by decide)) (fun _ => ?_)
    refine wp_iconst (v := 1) dX6_isNext_27 (by decide) ?_
    refine wp_goto (tgt := 32) dX6_isNext_28 (by decide) ?_
    refine wp_iadd dX6_isNext_32 ?_
    refine wp_top (z := nI (if nx tx pl a c then a + 1 else a)) (by first | (rw [if_neg g9]; exact nI_add a 0) | (rw [if_pos g9]; exact nI_add a 1)) ?_
    refine wp_putI pX6_167 tA_235 rfl ⟨rfl, rfl⟩ (Nat.le_of_ble_eq_true rfl) dX6_isNext_33 ?_
    refine wp_iload_n dX6_isNext_36 rfl ?_
    exact wp_iret dX6_isNext_37 rfl rfl rfl (hK _ (hX.u8 _))

set_option maxRecDepth 100000 in
set_option maxHeartbeats 4000000 in
theorem s_X6_isDigit {γ : Gm} {l : Launch} {M : Mm} {R : Rm} {K : KT} {M0 : Mm} {tx nb : Nat → Int32} {pl a m : Nat} {lt so : Int32}  (hM : RM R) (hX : PS M0 M tx pl a m nb lt so) (hp : pl ≤ 80) (ha : a ≤ 201) (hK : K (some (.int (b01 (dg tx pl a)))) 243 M R) : CL γ l mX6_isDigit 1 243 243 [.ref 235] M R K := by
  show WP γ l mX6_isDigit 1 243 243 0 [some (.ref 235)] [] 243 M R K
  refine wp_aload_n dX6_isDigit_0 rfl ?_
  refine wp_aload_n dX6_isDigit_1 rfl ?_
  refine wp_getJ (v := nI a) fX6_167 tA_235 rfl (Nat.le_of_ble_eq_true rfl) dX6_isDigit_2 (hX.pa) ?_
  refine wp_cV1 (z := mX6_character) (n' := 243) kX6_170 dX6_isDigit_5 (Nat.le_of_ble_eq_true rfl) (Nat.le_of_ble_eq_true rfl) tA_235 (Nat.le_of_ble_eq_true rfl) (Nat.le_of_ble_eq_true rfl) (Nat.le_refl _) (Nat.le_refl _) (s_X6_character hM hX.ptx hX.ppl hp (by omega) (wp_af ?_))
  refine wp_bipush (v := 48) dX6_isDigit_8 (by decide) ?_
  refine wp_bipush (v := 57) dX6_isDigit_10 (by decide) ?_
  refine wp_cS3 (z := mX6_within) (n' := 243) kX6_39 dX6_isDigit_12 (Nat.le_of_ble_eq_true rfl) (Nat.le_of_ble_eq_true rfl) (Nat.le_of_ble_eq_true rfl) (Nat.le_refl _) (Nat.le_refl _) (s_X6_within (wp_af ?_))
  exact wp_iret dX6_isDigit_15 rfl b01_n rfl (b01_c chI_dg ▸ hK)

set_option maxRecDepth 100000 in
set_option maxHeartbeats 4000000 in
theorem s_X6_takesNumber {γ : Gm} {l : Launch} {M : Mm} {R : Rm} {K : KT} {M0 : Mm} {tx nb : Nat → Int32} {pl a m : Nat} {lt so : Int32} {sgn : Int32} (hM : RM R) (hX : PS M0 M tx pl a m nb lt so) (hp : pl ≤ 80) (ha : a ≤ 201) (hm : m < 5) (hK : ∀ M1, TN M0 M1 tx pl a m nb lt so sgn → K (some (.int (b01 ((rdN tx pl a).isSome = true)))) 243 M1 R) : CL γ l mX6_takesNumber 2 243 243 [.ref 235, .int sgn] M R K := by
  show WP γ l mX6_takesNumber 2 243 243 0 [some (.ref 235), some (.int sgn), none] [] 243 M R K
  have out : ∀ (M1 : Mm) (v e : Nat), rdN tx pl a = some (v, e) → PS M0 M1 tx pl e m nb lt so → WP γ l mX6_takesNumber 2 243 243 78 [some (.ref 235), some (.int sgn), some (.int (nI v))] [] 243 M1 R K := by
    intro M1 v e hr h1
    refine wp_aload_n dX6_takesNumber_78 rfl ?_
    refine wp_getQ fX6_28 tA_235 rfl hM.f11 (by decide) (Nat.le_of_ble_eq_true rfl) dX6_takesNumber_79 ?_
    refine wp_aload_n dX6_takesNumber_82 rfl ?_
    refine wp_getJ (v := nI m) fX6_177 tA_235 rfl (Nat.le_of_ble_eq_true rfl) dX6_takesNumber_83 (h1.pm) ?_
    refine wp_iload_n dX6_takesNumber_86 rfl ?_
    refine wp_iload_n dX6_takesNumber_87 rfl ?_
    refine wp_imul dX6_takesNumber_88 ?_
    refine wp_iast (i := m) rfl tA_242 (Nat.le_of_ble_eq_true rfl) (by rw [lA_242]; omega) (Nat.le_of_ble_eq_true rfl) dX6_takesNumber_89 ?_
    refine wp_aload_n dX6_takesNumber_90 rfl ?_
    refine wp_dup dX6_takesNumber_91 rfl ?_
    refine wp_getJ (v := nI m) fX6_177 tA_235 rfl (Nat.le_of_ble_eq_true rfl) dX6_takesNumber_92 ((h1.un m (sgn * nI v)).pm) ?_
    refine wp_iconst (v := 1) dX6_takesNumber_95 (by decide) ?_
    refine wp_iadd dX6_takesNumber_96 ?_
    refine wp_top (z := nI (m + 1)) (nI_1 m) ?_
    refine wp_putI pX6_177 tA_235 rfl ⟨rfl, rfl⟩ (Nat.le_of_ble_eq_true rfl) dX6_takesNumber_97 ?_
    refine wp_iconst (v := 1) dX6_takesNumber_100 (by decide) ?_
    exact wp_iret dX6_takesNumber_101 rfl rfl rfl (by have := hK _ ⟨fun e2 => absurd (hr.symm.trans e2) (by simp), fun v2 e2 h2 => by rw [hr] at h2; cases h2; exact (h1.un m (sgn * nI v)).u12 (m + 1)⟩; rwa [b01_t (by rw [hr]; rfl)] at this)
  have third : ∀ (M1 : Mm) (v e : Nat), 100 ≤ v → v ≤ 999 → rdN tx pl a = some (v, e) → PS M0 M1 tx pl e m nb lt so → WP γ l mX6_takesNumber 2 243 243 31 [some (.ref 235), some (.int sgn), some (.int (nI v))] [] 243 M1 R K := by
    intro M1 v e hv hv2 hr h1
    refine wp_iload_n dX6_takesNumber_31 rfl ?_
    refine wp_ifN_le (a := v) (tgt := 78) dX6_takesNumber_32 (by decide) rfl (by omega) (fun h32 => absurd h32 (by omega)) (fun h32 => ?_)
    refine wp_iload_n dX6_takesNumber_35 rfl ?_
    refine wp_bipush (v := 100) dX6_takesNumber_36 (by decide) ?_
    refine wp_icN_ge (a := v) (b := 100) (tgt := 78) dX6_takesNumber_38 (by decide) rfl rfl (by omega) (by omega) (fun h38 => ?_) (fun h38 => absurd h38 (by omega))
    exact out M1 v e hr h1
  have second : ∀ (M1 : Mm), 0 < dn tx a → dg tx pl a → dg tx pl (a + 1) → PS M0 M1 tx pl (a + 2) m nb lt so → WP γ l mX6_takesNumber 2 243 243 31 [some (.ref 235), some (.int sgn), some (.int (nI (10 * dn tx a + dn tx (a + 1))))] [] 243 M1 R K := by
    intro M1 hd1 g1 g2 h1
    have d1 := (dg_dn g1).2
    have d2 := (dg_dn g2).2
    obtain ⟨v, hv⟩ : ∃ v, v = 10 * dn tx a + dn tx (a + 1) := ⟨_, rfl⟩
    obtain ⟨e, he⟩ : ∃ e, e = a + 2 := ⟨_, rfl⟩
    rw [← hv]
    rw [← he] at h1
    have hr : rdN tx pl a = if dg tx pl e then some (10 * v + dn tx e, e + 1) else some (v, e) := by rw [rdN, if_pos g1, if_pos ⟨hd1, g2⟩, he, hv]
    refine wp_iload_n dX6_takesNumber_31 rfl ?_
    refine wp_ifN_le (a := v) (tgt := 78) dX6_takesNumber_32 (by decide) rfl (by omega) (fun h32 => absurd h32 (by omega)) (fun h32 => ?_)
    refine wp_iload_n dX6_takesNumber_35 rfl ?_
    refine wp_bipush (v := 100) dX6_takesNumber_36 (by decide) ?_
    refine wp_icN_ge (a := v) (b := 100) (tgt := 78) dX6_takesNumber_38 (by decide) rfl rfl (by omega) (by omega) (fun h38 => absurd h38 (by omega)) (fun h38 => ?_)
    refine wp_aload_n dX6_takesNumber_41 rfl ?_
    refine wp_cV0 (z := mX6_isDigit) (n' := 243) kX6_173 dX6_takesNumber_42 (Nat.le_of_ble_eq_true rfl) (Nat.le_of_ble_eq_true rfl) tA_235 (Nat.le_of_ble_eq_true rfl) (Nat.le_of_ble_eq_true rfl) (Nat.le_refl _) (Nat.le_refl _) (s_X6_isDigit hM h1 hp (by omega) (wp_af ?_))
    refine wp_bq_eq (tgt := 78) dX6_takesNumber_45 (by decide) (fun g45 => ?_) (fun g45 => ?_)
    · exact out M1 v e (by rw [hr, if_neg g45]) h1
    · refine wp_bipush (v := 10) dX6_takesNumber_48 (by decide) ?_
      refine wp_iload_n dX6_takesNumber_50 rfl ?_
      refine wp_imul dX6_takesNumber_51 ?_
      refine wp_aload_n dX6_takesNumber_52 rfl ?_
      refine wp_aload_n dX6_takesNumber_53 rfl ?_
      refine wp_getJ (v := nI e) fX6_167 tA_235 rfl (Nat.le_of_ble_eq_true rfl) dX6_takesNumber_54 (h1.pa) ?_
      refine wp_cV1 (z := mX6_character) (n' := 243) kX6_170 dX6_takesNumber_57 (Nat.le_of_ble_eq_true rfl) (Nat.le_of_ble_eq_true rfl) tA_235 (Nat.le_of_ble_eq_true rfl) (Nat.le_of_ble_eq_true rfl) (Nat.le_refl _) (Nat.le_refl _) (s_X6_character hM h1.ptx h1.ppl hp (by omega) (wp_af ?_))
      refine wp_iadd dX6_takesNumber_60 ?_
      refine wp_bipush (v := 48) dX6_takesNumber_61 (by decide) ?_
      refine wp_isub dX6_takesNumber_63 ?_
      have d3 := (dg_dn g45).2
      refine wp_top (z := nI (10 * v + dn tx e)) (dg_more g45) ?_
      refine wp_istore_n (L' := [some (.ref 235), some (.int sgn), some (.int (nI (10 * v + dn tx e)))]) dX6_takesNumber_64 (by decide) rfl ?_
      refine wp_aload_n dX6_takesNumber_65 rfl ?_
      refine wp_dup dX6_takesNumber_66 rfl ?_
      refine wp_getJ (v := nI e) fX6_167 tA_235 rfl (Nat.le_of_ble_eq_true rfl) dX6_takesNumber_67 (h1.pa) ?_
      refine wp_iconst (v := 1) dX6_takesNumber_70 (by decide) ?_
      refine wp_iadd dX6_takesNumber_71 ?_
      refine wp_top (z := nI (e + 1)) (nI_1 e) ?_
      refine wp_putI pX6_167 tA_235 rfl ⟨rfl, rfl⟩ (Nat.le_of_ble_eq_true rfl) dX6_takesNumber_72 ?_
      refine wp_goto (tgt := 31) dX6_takesNumber_75 (by decide) ?_
      exact third _ (10 * v + dn tx e) (e + 1) (by omega) (by omega) (by rw [hr, if_pos g45]) (h1.u8 _)
  have first1 : ∀ (M1 : Mm), dg tx pl a → PS M0 M1 tx pl (a + 1) m nb lt so → WP γ l mX6_takesNumber 2 243 243 31 [some (.ref 235), some (.int sgn), some (.int (nI (dn tx a)))] [] 243 M1 R K := by
    intro M1 g1 h1
    have d1 := (dg_dn g1).2
    obtain ⟨v, hv⟩ : ∃ v, v = dn tx a := ⟨_, rfl⟩
    obtain ⟨e, he⟩ : ∃ e, e = a + 1 := ⟨_, rfl⟩
    rw [← hv]
    rw [← he] at h1
    refine wp_iload_n dX6_takesNumber_31 rfl ?_
    refine wp_ifN_le (a := v) (tgt := 78) dX6_takesNumber_32 (by decide) rfl (by omega) (fun h32 => ?_) (fun h32 => ?_)
    · first
        | exact out M1 v e (by rw [rdN, if_pos g1, if_neg (fun h => g45 (he ▸ h.2)), hv, he]) h1
        | exact out M1 v e (by rw [rdN, if_pos g1, if_neg (fun h => absurd h.1 (by omega)), hv, he]) h1
    · refine wp_iload_n dX6_takesNumber_35 rfl ?_
      refine wp_bipush (v := 100) dX6_takesNumber_36 (by decide) ?_
      refine wp_icN_ge (a := v) (b := 100) (tgt := 78) dX6_takesNumber_38 (by decide) rfl rfl (by omega) (by omega) (fun h38 => absurd h38 (by omega)) (fun h38 => ?_)
      refine wp_aload_n dX6_takesNumber_41 rfl ?_
      refine wp_cV0 (z := mX6_isDigit) (n' := 243) kX6_173 dX6_takesNumber_42 (Nat.le_of_ble_eq_true rfl) (Nat.le_of_ble_eq_true rfl) tA_235 (Nat.le_of_ble_eq_true rfl) (Nat.le_of_ble_eq_true rfl) (Nat.le_refl _) (Nat.le_refl _) (s_X6_isDigit hM h1 hp (by omega) (wp_af ?_))
      refine wp_bq_eq (tgt := 78) dX6_takesNumber_45 (by decide) (fun g45 => ?_) (fun g45 => ?_)
      · first
          | exact out M1 v e (by rw [rdN, if_pos g1, if_neg (fun h => g45 (he ▸ h.2)), hv, he]) h1
          | exact out M1 v e (by rw [rdN, if_pos g1, if_neg (fun h => absurd h.1 (by omega)), hv, he]) h1
      · refine wp_bipush (v := 10) dX6_takesNumber_48 (by decide) ?_
        refine wp_iload_n dX6_takesNumber_50 rfl ?_
        refine wp_imul dX6_takesNumber_51 ?_
        refine wp_aload_n dX6_takesNumber_52 rfl ?_
        refine wp_aload_n dX6_takesNumber_53 rfl ?_
        refine wp_getJ (v := nI e) fX6_167 tA_235 rfl (Nat.le_of_ble_eq_true rfl) dX6_takesNumber_54 (h1.pa) ?_
        refine wp_cV1 (z := mX6_character) (n' := 243) kX6_170 dX6_takesNumber_57 (Nat.le_of_ble_eq_true rfl) (Nat.le_of_ble_eq_true rfl) tA_235 (Nat.le_of_ble_eq_true rfl) (Nat.le_of_ble_eq_true rfl) (Nat.le_refl _) (Nat.le_refl _) (s_X6_character hM h1.ptx h1.ppl hp (by omega) (wp_af ?_))
        refine wp_iadd dX6_takesNumber_60 ?_
        refine wp_bipush (v := 48) dX6_takesNumber_61 (by decide) ?_
        refine wp_isub dX6_takesNumber_63 ?_
        have d3 := (dg_dn g45).2
        refine wp_top (z := nI (10 * v + dn tx e)) (dg_more g45) ?_
        refine wp_istore_n (L' := [some (.ref 235), some (.int sgn), some (.int (nI (10 * v + dn tx e)))]) dX6_takesNumber_64 (by decide) rfl ?_
        refine wp_aload_n dX6_takesNumber_65 rfl ?_
        refine wp_dup dX6_takesNumber_66 rfl ?_
        refine wp_getJ (v := nI e) fX6_167 tA_235 rfl (Nat.le_of_ble_eq_true rfl) dX6_takesNumber_67 (h1.pa) ?_
        refine wp_iconst (v := 1) dX6_takesNumber_70 (by decide) ?_
        refine wp_iadd dX6_takesNumber_71 ?_
        refine wp_top (z := nI (e + 1)) (nI_1 e) ?_
        refine wp_putI pX6_167 tA_235 rfl ⟨rfl, rfl⟩ (Nat.le_of_ble_eq_true rfl) dX6_takesNumber_72 ?_
        refine wp_goto (tgt := 31) dX6_takesNumber_75 (by decide) ?_
        rw [hv, he]
        exact second _ (by omega) g1 (he ▸ g45) (by rw [show a + 2 = e + 1 by omega]; exact h1.u8 (e + 1))
  refine wp_aload_n dX6_takesNumber_0 rfl ?_
  refine wp_cV0 (z := mX6_isDigit) (n' := 243) kX6_173 dX6_takesNumber_1 (Nat.le_of_ble_eq_true rfl) (Nat.le_of_ble_eq_true rfl) tA_235 (Nat.le_of_ble_eq_true rfl) (Nat.le_of_ble_eq_true rfl) (Nat.le_refl _) (Nat.le_refl _) (s_X6_isDigit hM hX hp (by omega) (wp_af ?_))
  refine wp_bq_ne (tgt := 9) dX6_takesNumber_4 (by decide) (fun g4 => ?_) (fun g4 => ?_)
  · refine wp_aload_n dX6_takesNumber_9 rfl ?_
    refine wp_aload_n dX6_takesNumber_10 rfl ?_
    refine wp_getJ (v := nI a) fX6_167 tA_235 rfl (Nat.le_of_ble_eq_true rfl) dX6_takesNumber_11 (hX.pa) ?_
    refine wp_cV1 (z := mX6_character) (n' := 243) kX6_170 dX6_takesNumber_14 (Nat.le_of_ble_eq_true rfl) (Nat.le_of_ble_eq_true rfl) tA_235 (Nat.le_of_ble_eq_true rfl) (Nat.le_of_ble_eq_true rfl) (Nat.le_refl _) (Nat.le_refl _) (s_X6_character hM hX.ptx hX.ppl hp (by omega) (wp_af ?_))
    refine wp_bipush (v := 48) dX6_takesNumber_17 (by decide) ?_
    refine wp_isub dX6_takesNumber_19 ?_
    refine wp_top (dg_dn g4).1 ?_
    refine wp_istore_n (L' := [some (.ref 235), some (.int sgn), some (.int (nI (dn tx a)))]) dX6_takesNumber_20 (by decide) rfl ?_
    refine wp_aload_n dX6_takesNumber_21 rfl ?_
    refine wp_dup dX6_takesNumber_22 rfl ?_
    refine wp_getJ (v := nI a) fX6_167 tA_235 rfl (Nat.le_of_ble_eq_true rfl) dX6_takesNumber_23 (hX.pa) ?_
    refine wp_iconst (v := 1) dX6_takesNumber_26 (by decide) ?_
    refine wp_iadd dX6_takesNumber_27 ?_
    refine wp_top (z := nI (a + 1)) (nI_1 a) ?_
    refine wp_putI pX6_167 tA_235 rfl ⟨rfl, rfl⟩ (Nat.le_of_ble_eq_true rfl) dX6_takesNumber_28 ?_
    exact first1 _ g4 (hX.u8 (a + 1))
  · refine wp_iconst (v := 0) dX6_takesNumber_7 (by decide) ?_
    exact wp_iret dX6_takesNumber_8 rfl rfl rfl (by have := hK _ ⟨fun _ => hX, fun v e e2 => absurd e2 (by rw [rdN, if_neg g4]; simp)⟩; rwa [b01_f (by rw [rdN, if_neg g4]; simp)] at this)

set_option maxRecDepth 100000 in
set_option maxHeartbeats 4000000 in
theorem s_X6_takesValue {γ : Gm} {l : Launch} {M : Mm} {R : Rm} {K : KT} {M0 : Mm} {tx nb : Nat → Int32} {pl a m : Nat} {lt so : Int32}  (hM : RM R) (hX : PS M0 M tx pl a m nb lt so) (hp : pl ≤ 80) (ha : a ≤ 200) (hm : m < 5) (hK : ∀ M1, TV M0 M1 tx pl a m nb lt so → K (some (.int (b01 ((rdV tx pl a).isSome = true)))) 243 M1 R) : CL γ l mX6_takesValue 3 243 243 [.ref 235] M R K := by
  show WP γ l mX6_takesValue 3 243 243 0 [some (.ref 235)] [] 243 M R K
  refine wp_aload_n dX6_takesValue_0 rfl ?_
  refine wp_aload_n dX6_takesValue_1 rfl ?_
  refine wp_bipush (v := 45) dX6_takesValue_2 (by decide) ?_
  refine wp_cV1 (z := mX6_isNext) (n' := 243) kX6_180 dX6_takesValue_4 (Nat.le_of_ble_eq_true rfl) (Nat.le_of_ble_eq_true rfl) tA_235 (Nat.le_of_ble_eq_true rfl) (Nat.le_of_ble_eq_true rfl) (Nat.le_refl _) (Nat.le_refl _) (s_X6_isNext hM hX hp (by omega) (by decide) (fun M1 hX1 => (wp_af ?_)))
  refine wp_bq_eq (tgt := 14) dX6_takesValue_7 (by decide) (fun h7 => ?_) (fun h7 => ?_)
  · rw [if_neg h7] at hX1
    have eF : vF tx pl a = a := if_neg h7
    have hvF : a ≤ 201 := by omega
    have e1 : rdV tx pl a = (rdN tx pl a).map fun q => ((1 : Int32) * nI q.1, q.2) := by rw [rdV, eF, if_neg h7]
    refine wp_iconst (v := 1) dX6_takesValue_14 (by decide) ?_
    refine wp_cV1 (z := mX6_takesNumber) (n' := 243) kX6_183 dX6_takesValue_15 (Nat.le_of_ble_eq_true rfl) (Nat.le_of_ble_eq_true rfl) tA_235 (Nat.le_of_ble_eq_true rfl) (Nat.le_of_ble_eq_true rfl) (Nat.le_refl _) (Nat.le_refl _) (s_X6_takesNumber hM hX1 hp hvF hm (fun M2 hX2 => (wp_af ?_)))
    exact wp_iret dX6_takesValue_18 rfl b01_n rfl (by have := hK M2 (tv_of eF e1 hX2); rwa [e1, Option.isSome_map] at this)
  · rw [if_pos h7] at hX1
    have eF : vF tx pl a = a + 1 := if_pos h7
    have hvF : a + 1 ≤ 201 := by omega
    have e1 : rdV tx pl a = (rdN tx pl (a + 1)).map fun q => ((-1 : Int32) * nI q.1, q.2) := by rw [rdV, eF, if_pos h7]
    refine wp_iconst (v := (-1)) dX6_takesValue_10 (by decide) ?_
    refine wp_goto (tgt := 15) dX6_takesValue_11 (by decide) ?_
    refine wp_cV1 (z := mX6_takesNumber) (n' := 243) kX6_183 dX6_takesValue_15 (Nat.le_of_ble_eq_true rfl) (Nat.le_of_ble_eq_true rfl) tA_235 (Nat.le_of_ble_eq_true rfl) (Nat.le_of_ble_eq_true rfl) (Nat.le_refl _) (Nat.le_refl _) (s_X6_takesNumber hM hX1 hp hvF hm (fun M2 hX2 => (wp_af ?_)))
    exact wp_iret dX6_takesValue_18 rfl b01_n rfl (by have := hK M2 (tv_of eF e1 hX2); rwa [e1, Option.isSome_map] at this)

set_option maxRecDepth 100000 in
set_option maxHeartbeats 4000000 in
theorem s_X6_takesSort {γ : Gm} {l : Launch} {M : Mm} {R : Rm} {K : KT} {M0 : Mm} {tx nb : Nat → Int32} {pl a m : Nat} {lt so : Int32}  (hM : RM R) (hX : PS M0 M tx pl a m nb lt so) (hp : pl ≤ 80) (ha : a ≤ 201) (hK : ∀ M1, TS M0 M1 tx pl a m nb lt → K (some (.int (b01 ((rdS tx pl a).isSome = true)))) 243 M1 R) : CL γ l mX6_takesSort 1 243 243 [.ref 235] M R K := by
  show WP γ l mX6_takesSort 1 243 243 0 [some (.ref 235), none] [] 243 M R K
  refine wp_aload_n dX6_takesSort_0 rfl ?_
  refine wp_aload_n dX6_takesSort_1 rfl ?_
  refine wp_getJ (v := nI a) fX6_167 tA_235 rfl (Nat.le_of_ble_eq_true rfl) dX6_takesSort_2 (hX.pa) ?_
  refine wp_cV1 (z := mX6_character) (n' := 243) kX6_170 dX6_takesSort_5 (Nat.le_of_ble_eq_true rfl) (Nat.le_of_ble_eq_true rfl) tA_235 (Nat.le_of_ble_eq_true rfl) (Nat.le_of_ble_eq_true rfl) (Nat.le_refl _) (Nat.le_refl _) (s_X6_character hM hX.ptx hX.ppl hp (by omega) (wp_af ?_))
  refine wp_istore_n (L' := [some (.ref 235), some (.int _)]) dX6_takesSort_8 (by decide) rfl ?_
  refine wp_aload_n dX6_takesSort_9 rfl ?_
  refine wp_iload_n dX6_takesSort_10 rfl ?_
  refine wp_bipush (v := 102) dX6_takesSort_11 (by decide) ?_
  refine wp_icmp_ne (tgt := 20) dX6_takesSort_13 (by decide) (fun h13 => ?_) (fun h13 => ?_)
  · have g13 := fun e => h13 ((chI_nx (by decide)).mpr e)
    refine wp_iload_n dX6_takesSort_20 rfl ?_
    refine wp_bipush (v := 115) dX6_takesSort_21 (by decide) ?_
    refine wp_icmp_ne (tgt := 30) dX6_takesSort_23 (by decide) (fun h23 => ?_) (fun h23 => ?_)
    · have g23 := fun e => h23 ((chI_nx (by decide)).mpr e)
      refine wp_iload_n dX6_takesSort_30 rfl ?_
      refine wp_bipush (v := 98) dX6_takesSort_31 (by decide) ?_
      refine wp_icmp_ne (tgt := 40) dX6_takesSort_33 (by decide) (fun h33 => ?_) (fun h33 => ?_)
      · have g33 := fun e => h33 ((chI_nx (by decide)).mpr e)
        refine wp_iload_n dX6_takesSort_40 rfl ?_
        refine wp_bipush (v := 116) dX6_takesSort_41 (by decide) ?_
        refine wp_icmp_ne (tgt := 50) dX6_takesSort_43 (by decide) (fun h43 => ?_) (fun h43 => ?_)
        · have g43 := fun e => h43 ((chI_nx (by decide)).mpr e)
          have eS : rdS tx pl a = none := by rw [rdS, if_neg g13, if_neg g23, if_neg g33, if_neg g43]
          refine wp_bipush (v := (-6)) dX6_takesSort_50 (by decide) ?_
          refine wp_putI pX6_186 tA_235 rfl ⟨rfl, rfl⟩ (Nat.le_of_ble_eq_true rfl) dX6_takesSort_52 ?_
          refine wp_aload_n dX6_takesSort_55 rfl ?_
          refine wp_dup dX6_takesSort_56 rfl ?_
          refine wp_getJ (v := nI a) fX6_167 tA_235 rfl (Nat.le_of_ble_eq_true rfl) dX6_takesSort_57 ((hX.u10 _).pa) ?_
          refine wp_aload_n dX6_takesSort_60 rfl ?_
          refine wp_getJ fX6_186 tA_235 rfl (Nat.le_of_ble_eq_true rfl) dX6_takesSort_61 ((hX.u10 _).pso) ?_
          refine wp_bipush (v := (-6)) dX6_takesSort_64 (by decide) ?_
          refine wp_icmp_ne (tgt := 73) dX6_takesSort_66 (by decide) (fun h66 => ?_) (fun h66 => ?_)
          · refine wp_iconst (v := 1) dX6_takesSort_73 (by decide) ?_
            refine wp_iadd dX6_takesSort_74 ?_
            refine wp_top (ix_add rfl rfl) ?_
            refine wp_putI pX6_167 tA_235 rfl ⟨rfl, rfl⟩ (Nat.le_of_ble_eq_true rfl) dX6_takesSort_75 ?_
            refine wp_aload_n dX6_takesSort_78 rfl ?_
            refine wp_getJ fX6_186 tA_235 rfl (Nat.le_of_ble_eq_true rfl) dX6_takesSort_79 (so_at (hX.u10 _)) ?_
            refine wp_bipush (v := (-6)) dX6_takesSort_82 (by decide) ?_
            refine wp_icmp_eq (tgt := 91) dX6_takesSort_84 (by decide) (fun h84 => ?_) (fun h84 => ?_)
            · refine wp_iconst (v := 0) dX6_takesSort_91 (by decide) ?_
              exact wp_iret dX6_takesSort_92 rfl rfl rfl (by
      first
        | exact absurd h66 (by decide)
        | exact absurd rfl h66
        | exact absurd h84 (by decide)
        | exact absurd rfl h84
        | (have := hK _ ⟨fun e => absurd e (by rw [eS]; simp), fun s e => by rw [eS] at e; cases e; exact (hX.u10 _).u8 _⟩; rwa [b01_t (by rw [eS]; rfl)] at this)
        | (have := hK _ ⟨fun e => (hX.u10 _).u8 (a + 0), fun s e => absurd e (by rw [eS]; simp)⟩; rwa [b01_f (by rw [eS]; simp)] at this))
            · refine wp_iconst (v := 1) dX6_takesSort_87 (by decide) ?_
              refine wp_goto (tgt := 92) dX6_takesSort_88 (by decide) ?_
              exact wp_iret dX6_takesSort_92 rfl rfl rfl (by
      first
        | exact absurd h66 (by decide)
        | exact absurd rfl h66
        | exact absurd h84 (by decide)
        | exact absurd rfl h84
        | (have := hK _ ⟨fun e => absurd e (by rw [eS]; simp), fun s e => by rw [eS] at e; cases e; exact (hX.u10 _).u8 _⟩; rwa [b01_t (by rw [eS]; rfl)] at this)
        | (have := hK _ ⟨fun e => (hX.u10 _).u8 (a + 0), fun s e => absurd e (by rw [eS]; simp)⟩; rwa [b01_f (by rw [eS]; simp)] at this))
          · refine wp_iconst (v := 0) dX6_takesSort_69 (by decide) ?_
            refine wp_goto (tgt := 74) dX6_takesSort_70 (by decide) ?_
            refine wp_iadd dX6_takesSort_74 ?_
            refine wp_top (ix_add rfl rfl) ?_
            refine wp_putI pX6_167 tA_235 rfl ⟨rfl, rfl⟩ (Nat.le_of_ble_eq_true rfl) dX6_takesSort_75 ?_
            refine wp_aload_n dX6_takesSort_78 rfl ?_
            refine wp_getJ fX6_186 tA_235 rfl (Nat.le_of_ble_eq_true rfl) dX6_takesSort_79 (so_at (hX.u10 _)) ?_
            refine wp_bipush (v := (-6)) dX6_takesSort_82 (by decide) ?_
            refine wp_icmp_eq (tgt := 91) dX6_takesSort_84 (by decide) (fun h84 => ?_) (fun h84 => ?_)
            · refine wp_iconst (v := 0) dX6_takesSort_91 (by decide) ?_
              exact wp_iret dX6_takesSort_92 rfl rfl rfl (by
      first
        | exact absurd h66 (by decide)
        | exact absurd rfl h66
        | exact absurd h84 (by decide)
        | exact absurd rfl h84
        | (have := hK _ ⟨fun e => absurd e (by rw [eS]; simp), fun s e => by rw [eS] at e; cases e; exact (hX.u10 _).u8 _⟩; rwa [b01_t (by rw [eS]; rfl)] at this)
        | (have := hK _ ⟨fun e => (hX.u10 _).u8 (a + 0), fun s e => absurd e (by rw [eS]; simp)⟩; rwa [b01_f (by rw [eS]; simp)] at this))
            · refine wp_iconst (v := 1) dX6_takesSort_87 (by decide) ?_
              refine wp_goto (tgt := 92) dX6_takesSort_88 (by decide) ?_
              exact wp_iret dX6_takesSort_92 rfl rfl rfl (by
      first
        | exact absurd h66 (by decide)
        | exact absurd rfl h66
        | exact absurd h84 (by decide)
        | exact absurd rfl h84
        | (have := hK _ ⟨fun e => absurd e (by rw [eS]; simp), fun s e => by rw [eS] at e; cases e; exact (hX.u10 _).u8 _⟩; rwa [b01_t (by rw [eS]; rfl)] at this)
        | (have := hK _ ⟨fun e => (hX.u10 _).u8 (a + 0), fun s e => absurd e (by rw [eS]; simp)⟩; rwa [b01_f (by rw [eS]; simp)] at this))
        · have g43 := (chI_nx (by decide)).mp h43
          have eS : rdS tx pl a = some 3 := by rw [rdS, if_neg g13, if_neg g23, if_neg g33, if_pos g43]
          refine wp_iconst (v := 3) dX6_takesSort_46 (by decide) ?_
          refine wp_goto (tgt := 52) dX6_takesSort_47 (by decide) ?_
          refine wp_putI pX6_186 tA_235 rfl ⟨rfl, rfl⟩ (Nat.le_of_ble_eq_true rfl) dX6_takesSort_52 ?_
          refine wp_aload_n dX6_takesSort_55 rfl ?_
          refine wp_dup dX6_takesSort_56 rfl ?_
          refine wp_getJ (v := nI a) fX6_167 tA_235 rfl (Nat.le_of_ble_eq_true rfl) dX6_takesSort_57 ((hX.u10 _).pa) ?_
          refine wp_aload_n dX6_takesSort_60 rfl ?_
          refine wp_getJ fX6_186 tA_235 rfl (Nat.le_of_ble_eq_true rfl) dX6_takesSort_61 ((hX.u10 _).pso) ?_
          refine wp_bipush (v := (-6)) dX6_takesSort_64 (by decide) ?_
          refine wp_icmp_ne (tgt := 73) dX6_takesSort_66 (by decide) (fun h66 => ?_) (fun h66 => ?_)
          · refine wp_iconst (v := 1) dX6_takesSort_73 (by decide) ?_
            refine wp_iadd dX6_takesSort_74 ?_
            refine wp_top (ix_add rfl rfl) ?_
            refine wp_putI pX6_167 tA_235 rfl ⟨rfl, rfl⟩ (Nat.le_of_ble_eq_true rfl) dX6_takesSort_75 ?_
            refine wp_aload_n dX6_takesSort_78 rfl ?_
            refine wp_getJ fX6_186 tA_235 rfl (Nat.le_of_ble_eq_true rfl) dX6_takesSort_79 (so_at (hX.u10 _)) ?_
            refine wp_bipush (v := (-6)) dX6_takesSort_82 (by decide) ?_
            refine wp_icmp_eq (tgt := 91) dX6_takesSort_84 (by decide) (fun h84 => ?_) (fun h84 => ?_)
            · refine wp_iconst (v := 0) dX6_takesSort_91 (by decide) ?_
              exact wp_iret dX6_takesSort_92 rfl rfl rfl (by
      first
        | exact absurd h66 (by decide)
        | exact absurd rfl h66
        | exact absurd h84 (by decide)
        | exact absurd rfl h84
        | (have := hK _ ⟨fun e => absurd e (by rw [eS]; simp), fun s e => by rw [eS] at e; cases e; exact (hX.u10 _).u8 _⟩; rwa [b01_t (by rw [eS]; rfl)] at this)
        | (have := hK _ ⟨fun e => (hX.u10 _).u8 (a + 0), fun s e => absurd e (by rw [eS]; simp)⟩; rwa [b01_f (by rw [eS]; simp)] at this))
            · refine wp_iconst (v := 1) dX6_takesSort_87 (by decide) ?_
              refine wp_goto (tgt := 92) dX6_takesSort_88 (by decide) ?_
              exact wp_iret dX6_takesSort_92 rfl rfl rfl (by
      first
        | exact absurd h66 (by decide)
        | exact absurd rfl h66
        | exact absurd h84 (by decide)
        | exact absurd rfl h84
        | (have := hK _ ⟨fun e => absurd e (by rw [eS]; simp), fun s e => by rw [eS] at e; cases e; exact (hX.u10 _).u8 _⟩; rwa [b01_t (by rw [eS]; rfl)] at this)
        | (have := hK _ ⟨fun e => (hX.u10 _).u8 (a + 0), fun s e => absurd e (by rw [eS]; simp)⟩; rwa [b01_f (by rw [eS]; simp)] at this))
          · refine wp_iconst (v := 0) dX6_takesSort_69 (by decide) ?_
            refine wp_goto (tgt := 74) dX6_takesSort_70 (by decide) ?_
            refine wp_iadd dX6_takesSort_74 ?_
            refine wp_top (ix_add rfl rfl) ?_
            refine wp_putI pX6_167 tA_235 rfl ⟨rfl, rfl⟩ (Nat.le_of_ble_eq_true rfl) dX6_takesSort_75 ?_
            refine wp_aload_n dX6_takesSort_78 rfl ?_
            refine wp_getJ fX6_186 tA_235 rfl (Nat.le_of_ble_eq_true rfl) dX6_takesSort_79 (so_at (hX.u10 _)) ?_
            refine wp_bipush (v := (-6)) dX6_takesSort_82 (by decide) ?_
            refine wp_icmp_eq (tgt := 91) dX6_takesSort_84 (by decide) (fun h84 => ?_) (fun h84 => ?_)
            · refine wp_iconst (v := 0) dX6_takesSort_91 (by decide) ?_
              exact wp_iret dX6_takesSort_92 rfl rfl rfl (by
      first
        | exact absurd h66 (by decide)
        | exact absurd rfl h66
        | exact absurd h84 (by decide)
        | exact absurd rfl h84
        | (have := hK _ ⟨fun e => absurd e (by rw [eS]; simp), fun s e => by rw [eS] at e; cases e; exact (hX.u10 _).u8 _⟩; rwa [b01_t (by rw [eS]; rfl)] at this)
        | (have := hK _ ⟨fun e => (hX.u10 _).u8 (a + 0), fun s e => absurd e (by rw [eS]; simp)⟩; rwa [b01_f (by rw [eS]; simp)] at this))
            · refine wp_iconst (v := 1) dX6_takesSort_87 (by decide) ?_
              refine wp_goto (tgt := 92) dX6_takesSort_88 (by decide) ?_
              exact wp_iret dX6_takesSort_92 rfl rfl rfl (by
      first
        | exact absurd h66 (by decide)
        | exact absurd rfl h66
        | exact absurd h84 (by decide)
        | exact absurd rfl h84
        | (have := hK _ ⟨fun e => absurd e (by rw [eS]; simp), fun s e => by rw [eS] at e; cases e; exact (hX.u10 _).u8 _⟩; rwa [b01_t (by rw [eS]; rfl)] at this)
        | (have := hK _ ⟨fun e => (hX.u10 _).u8 (a + 0), fun s e => absurd e (by rw [eS]; simp)⟩; rwa [b01_f (by rw [eS]; simp)] at this))
      · have g33 := (chI_nx (by decide)).mp h33
        have eS : rdS tx pl a = some 2 := by rw [rdS, if_neg g13, if_neg g23, if_pos g33]
        refine wp_iconst (v := 2) dX6_takesSort_36 (by decide) ?_
        refine wp_goto (tgt := 52) dX6_takesSort_37 (by decide) ?_
        refine wp_putI pX6_186 tA_235 rfl ⟨rfl, rfl⟩ (Nat.le_of_ble_eq_true rfl) dX6_takesSort_52 ?_
        refine wp_aload_n dX6_takesSort_55 rfl ?_
        refine wp_dup dX6_takesSort_56 rfl ?_
        refine wp_getJ (v := nI a) fX6_167 tA_235 rfl (Nat.le_of_ble_eq_true rfl) dX6_takesSort_57 ((hX.u10 _).pa) ?_
        refine wp_aload_n dX6_takesSort_60 rfl ?_
        refine wp_getJ fX6_186 tA_235 rfl (Nat.le_of_ble_eq_true rfl) dX6_takesSort_61 ((hX.u10 _).pso) ?_
        refine wp_bipush (v := (-6)) dX6_takesSort_64 (by decide) ?_
        refine wp_icmp_ne (tgt := 73) dX6_takesSort_66 (by decide) (fun h66 => ?_) (fun h66 => ?_)
        · refine wp_iconst (v := 1) dX6_takesSort_73 (by decide) ?_
          refine wp_iadd dX6_takesSort_74 ?_
          refine wp_top (ix_add rfl rfl) ?_
          refine wp_putI pX6_167 tA_235 rfl ⟨rfl, rfl⟩ (Nat.le_of_ble_eq_true rfl) dX6_takesSort_75 ?_
          refine wp_aload_n dX6_takesSort_78 rfl ?_
          refine wp_getJ fX6_186 tA_235 rfl (Nat.le_of_ble_eq_true rfl) dX6_takesSort_79 (so_at (hX.u10 _)) ?_
          refine wp_bipush (v := (-6)) dX6_takesSort_82 (by decide) ?_
          refine wp_icmp_eq (tgt := 91) dX6_takesSort_84 (by decide) (fun h84 => ?_) (fun h84 => ?_)
          · refine wp_iconst (v := 0) dX6_takesSort_91 (by decide) ?_
            exact wp_iret dX6_takesSort_92 rfl rfl rfl (by
      first
        | exact absurd h66 (by decide)
        | exact absurd rfl h66
        | exact absurd h84 (by decide)
        | exact absurd rfl h84
        | (have := hK _ ⟨fun e => absurd e (by rw [eS]; simp), fun s e => by rw [eS] at e; cases e; exact (hX.u10 _).u8 _⟩; rwa [b01_t (by rw [eS]; rfl)] at this)
        | (have := hK _ ⟨fun e => (hX.u10 _).u8 (a + 0), fun s e => absurd e (by rw [eS]; simp)⟩; rwa [b01_f (by rw [eS]; simp)] at this))
          · refine wp_iconst (v := 1) dX6_takesSort_87 (by decide) ?_
            refine wp_goto (tgt := 92) dX6_takesSort_88 (by decide) ?_
            exact wp_iret dX6_takesSort_92 rfl rfl rfl (by
      first
        | exact absurd h66 (by decide)
        | exact absurd rfl h66
        | exact absurd h84 (by decide)
        | exact absurd rfl h84
        | (have := hK _ ⟨fun e => absurd e (by rw [eS]; simp), fun s e => by rw [eS] at e; cases e; exact (hX.u10 _).u8 _⟩; rwa [b01_t (by rw [eS]; rfl)] at this)
        | (have := hK _ ⟨fun e => (hX.u10 _).u8 (a + 0), fun s e => absurd e (by rw [eS]; simp)⟩; rwa [b01_f (by rw [eS]; simp)] at this))
        · refine wp_iconst (v := 0) dX6_takesSort_69 (by decide) ?_
          refine wp_goto (tgt := 74) dX6_takesSort_70 (by decide) ?_
          refine wp_iadd dX6_takesSort_74 ?_
          refine wp_top (ix_add rfl rfl) ?_
          refine wp_putI pX6_167 tA_235 rfl ⟨rfl, rfl⟩ (Nat.le_of_ble_eq_true rfl) dX6_takesSort_75 ?_
          refine wp_aload_n dX6_takesSort_78 rfl ?_
          refine wp_getJ fX6_186 tA_235 rfl (Nat.le_of_ble_eq_true rfl) dX6_takesSort_79 (so_at (hX.u10 _)) ?_
          refine wp_bipush (v := (-6)) dX6_takesSort_82 (by decide) ?_
          refine wp_icmp_eq (tgt := 91) dX6_takesSort_84 (by decide) (fun h84 => ?_) (fun h84 => ?_)
          · refine wp_iconst (v := 0) dX6_takesSort_91 (by decide) ?_
            exact wp_iret dX6_takesSort_92 rfl rfl rfl (by
      first
        | exact absurd h66 (by decide)
        | exact absurd rfl h66
        | exact absurd h84 (by decide)
        | exact absurd rfl h84
        | (have := hK _ ⟨fun e => absurd e (by rw [eS]; simp), fun s e => by rw [eS] at e; cases e; exact (hX.u10 _).u8 _⟩; rwa [b01_t (by rw [eS]; rfl)] at this)
        | (have := hK _ ⟨fun e => (hX.u10 _).u8 (a + 0), fun s e => absurd e (by rw [eS]; simp)⟩; rwa [b01_f (by rw [eS]; simp)] at this))
          · refine wp_iconst (v := 1) dX6_takesSort_87 (by decide) ?_
            refine wp_goto (tgt := 92) dX6_takesSort_88 (by decide) ?_
            exact wp_iret dX6_takesSort_92 rfl rfl rfl (by
      first
        | exact absurd h66 (by decide)
        | exact absurd rfl h66
        | exact absurd h84 (by decide)
        | exact absurd rfl h84
        | (have := hK _ ⟨fun e => absurd e (by rw [eS]; simp), fun s e => by rw [eS] at e; cases e; exact (hX.u10 _).u8 _⟩; rwa [b01_t (by rw [eS]; rfl)] at this)
        | (have := hK _ ⟨fun e => (hX.u10 _).u8 (a + 0), fun s e => absurd e (by rw [eS]; simp)⟩; rwa [b01_f (by rw [eS]; simp)] at this))
    · have g23 := (chI_nx (by decide)).mp h23
      have eS : rdS tx pl a = some 1 := by rw [rdS, if_neg g13, if_pos g23]
      refine wp_iconst (v := 1) dX6_takesSort_26 (by decide) ?_
      refine wp_goto (tgt := 52) dX6_takesSort_27 (by decide) ?_
      refine wp_putI pX6_186 tA_235 rfl ⟨rfl, rfl⟩ (Nat.le_of_ble_eq_true rfl) dX6_takesSort_52 ?_
      refine wp_aload_n dX6_takesSort_55 rfl ?_
      refine wp_dup dX6_takesSort_56 rfl ?_
      refine wp_getJ (v := nI a) fX6_167 tA_235 rfl (Nat.le_of_ble_eq_true rfl) dX6_takesSort_57 ((hX.u10 _).pa) ?_
      refine wp_aload_n dX6_takesSort_60 rfl ?_
      refine wp_getJ fX6_186 tA_235 rfl (Nat.le_of_ble_eq_true rfl) dX6_takesSort_61 ((hX.u10 _).pso) ?_
      refine wp_bipush (v := (-6)) dX6_takesSort_64 (by decide) ?_
      refine wp_icmp_ne (tgt := 73) dX6_takesSort_66 (by decide) (fun h66 => ?_) (fun h66 => ?_)
      · refine wp_iconst (v := 1) dX6_takesSort_73 (by decide) ?_
        refine wp_iadd dX6_takesSort_74 ?_
        refine wp_top (ix_add rfl rfl) ?_
        refine wp_putI pX6_167 tA_235 rfl ⟨rfl, rfl⟩ (Nat.le_of_ble_eq_true rfl) dX6_takesSort_75 ?_
        refine wp_aload_n dX6_takesSort_78 rfl ?_
        refine wp_getJ fX6_186 tA_235 rfl (Nat.le_of_ble_eq_true rfl) dX6_takesSort_79 (so_at (hX.u10 _)) ?_
        refine wp_bipush (v := (-6)) dX6_takesSort_82 (by decide) ?_
        refine wp_icmp_eq (tgt := 91) dX6_takesSort_84 (by decide) (fun h84 => ?_) (fun h84 => ?_)
        · refine wp_iconst (v := 0) dX6_takesSort_91 (by decide) ?_
          exact wp_iret dX6_takesSort_92 rfl rfl rfl (by
      first
        | exact absurd h66 (by decide)
        | exact absurd rfl h66
        | exact absurd h84 (by decide)
        | exact absurd rfl h84
        | (have := hK _ ⟨fun e => absurd e (by rw [eS]; simp), fun s e => by rw [eS] at e; cases e; exact (hX.u10 _).u8 _⟩; rwa [b01_t (by rw [eS]; rfl)] at this)
        | (have := hK _ ⟨fun e => (hX.u10 _).u8 (a + 0), fun s e => absurd e (by rw [eS]; simp)⟩; rwa [b01_f (by rw [eS]; simp)] at this))
        · refine wp_iconst (v := 1) dX6_takesSort_87 (by decide) ?_
          refine wp_goto (tgt := 92) dX6_takesSort_88 (by decide) ?_
          exact wp_iret dX6_takesSort_92 rfl rfl rfl (by
      first
        | exact absurd h66 (by decide)
        | exact absurd rfl h66
        | exact absurd h84 (by decide)
        | exact absurd rfl h84
        | (have := hK _ ⟨fun e => absurd e (by rw [eS]; simp), fun s e => by rw [eS] at e; cases e; exact (hX.u10 _).u8 _⟩; rwa [b01_t (by rw [eS]; rfl)] at this)
        | (have := hK _ ⟨fun e => (hX.u10 _).u8 (a + 0), fun s e => absurd e (by rw [eS]; simp)⟩; rwa [b01_f (by rw [eS]; simp)] at this))
      · refine wp_iconst (v := 0) dX6_takesSort_69 (by decide) ?_
        refine wp_goto (tgt := 74) dX6_takesSort_70 (by decide) ?_
        refine wp_iadd dX6_takesSort_74 ?_
        refine wp_top (ix_add rfl rfl) ?_
        refine wp_putI pX6_167 tA_235 rfl ⟨rfl, rfl⟩ (Nat.le_of_ble_eq_true rfl) dX6_takesSort_75 ?_
        refine wp_aload_n dX6_takesSort_78 rfl ?_
        refine wp_getJ fX6_186 tA_235 rfl (Nat.le_of_ble_eq_true rfl) dX6_takesSort_79 (so_at (hX.u10 _)) ?_
        refine wp_bipush (v := (-6)) dX6_takesSort_82 (by decide) ?_
        refine wp_icmp_eq (tgt := 91) dX6_takesSort_84 (by decide) (fun h84 => ?_) (fun h84 => ?_)
        · refine wp_iconst (v := 0) dX6_takesSort_91 (by decide) ?_
          exact wp_iret dX6_takesSort_92 rfl rfl rfl (by
      first
        | exact absurd h66 (by decide)
        | exact absurd rfl h66
        | exact absurd h84 (by decide)
        | exact absurd rfl h84
        | (have := hK _ ⟨fun e => absurd e (by rw [eS]; simp), fun s e => by rw [eS] at e; cases e; exact (hX.u10 _).u8 _⟩; rwa [b01_t (by rw [eS]; rfl)] at this)
        | (have := hK _ ⟨fun e => (hX.u10 _).u8 (a + 0), fun s e => absurd e (by rw [eS]; simp)⟩; rwa [b01_f (by rw [eS]; simp)] at this))
        · refine wp_iconst (v := 1) dX6_takesSort_87 (by decide) ?_
          refine wp_goto (tgt := 92) dX6_takesSort_88 (by decide) ?_
          exact wp_iret dX6_takesSort_92 rfl rfl rfl (by
      first
        | exact absurd h66 (by decide)
        | exact absurd rfl h66
        | exact absurd h84 (by decide)
        | exact absurd rfl h84
        | (have := hK _ ⟨fun e => absurd e (by rw [eS]; simp), fun s e => by rw [eS] at e; cases e; exact (hX.u10 _).u8 _⟩; rwa [b01_t (by rw [eS]; rfl)] at this)
        | (have := hK _ ⟨fun e => (hX.u10 _).u8 (a + 0), fun s e => absurd e (by rw [eS]; simp)⟩; rwa [b01_f (by rw [eS]; simp)] at this))
  · have g13 := (chI_nx (by decide)).mp h13
    have eS : rdS tx pl a = some 0 := by rw [rdS, if_pos g13]
    refine wp_iconst (v := 0) dX6_takesSort_16 (by decide) ?_
    refine wp_goto (tgt := 52) dX6_takesSort_17 (by decide) ?_
    refine wp_putI pX6_186 tA_235 rfl ⟨rfl, rfl⟩ (Nat.le_of_ble_eq_true rfl) dX6_takesSort_52 ?_
    refine wp_aload_n dX6_takesSort_55 rfl ?_
    refine wp_dup dX6_takesSort_56 rfl ?_
    refine wp_getJ (v := nI a) fX6_167 tA_235 rfl (Nat.le_of_ble_eq_true rfl) dX6_takesSort_57 ((hX.u10 _).pa) ?_
    refine wp_aload_n dX6_takesSort_60 rfl ?_
    refine wp_getJ fX6_186 tA_235 rfl (Nat.le_of_ble_eq_true rfl) dX6_takesSort_61 ((hX.u10 _).pso) ?_
    refine wp_bipush (v := (-6)) dX6_takesSort_64 (by decide) ?_
    refine wp_icmp_ne (tgt := 73) dX6_takesSort_66 (by decide) (fun h66 => ?_) (fun h66 => ?_)
    · refine wp_iconst (v := 1) dX6_takesSort_73 (by decide) ?_
      refine wp_iadd dX6_takesSort_74 ?_
      refine wp_top (ix_add rfl rfl) ?_
      refine wp_putI pX6_167 tA_235 rfl ⟨rfl, rfl⟩ (Nat.le_of_ble_eq_true rfl) dX6_takesSort_75 ?_
      refine wp_aload_n dX6_takesSort_78 rfl ?_
      refine wp_getJ fX6_186 tA_235 rfl (Nat.le_of_ble_eq_true rfl) dX6_takesSort_79 (so_at (hX.u10 _)) ?_
      refine wp_bipush (v := (-6)) dX6_takesSort_82 (by decide) ?_
      refine wp_icmp_eq (tgt := 91) dX6_takesSort_84 (by decide) (fun h84 => ?_) (fun h84 => ?_)
      · refine wp_iconst (v := 0) dX6_takesSort_91 (by decide) ?_
        exact wp_iret dX6_takesSort_92 rfl rfl rfl (by
      first
        | exact absurd h66 (by decide)
        | exact absurd rfl h66
        | exact absurd h84 (by decide)
        | exact absurd rfl h84
        | (have := hK _ ⟨fun e => absurd e (by rw [eS]; simp), fun s e => by rw [eS] at e; cases e; exact (hX.u10 _).u8 _⟩; rwa [b01_t (by rw [eS]; rfl)] at this)
        | (have := hK _ ⟨fun e => (hX.u10 _).u8 (a + 0), fun s e => absurd e (by rw [eS]; simp)⟩; rwa [b01_f (by rw [eS]; simp)] at this))
      · refine wp_iconst (v := 1) dX6_takesSort_87 (by decide) ?_
        refine wp_goto (tgt := 92) dX6_takesSort_88 (by decide) ?_
        exact wp_iret dX6_takesSort_92 rfl rfl rfl (by
      first
        | exact absurd h66 (by decide)
        | exact absurd rfl h66
        | exact absurd h84 (by decide)
        | exact absurd rfl h84
        | (have := hK _ ⟨fun e => absurd e (by rw [eS]; simp), fun s e => by rw [eS] at e; cases e; exact (hX.u10 _).u8 _⟩; rwa [b01_t (by rw [eS]; rfl)] at this)
        | (have := hK _ ⟨fun e => (hX.u10 _).u8 (a + 0), fun s e => absurd e (by rw [eS]; simp)⟩; rwa [b01_f (by rw [eS]; simp)] at this))
    · refine wp_iconst (v := 0) dX6_takesSort_69 (by decide) ?_
      refine wp_goto (tgt := 74) dX6_takesSort_70 (by decide) ?_
      refine wp_iadd dX6_takesSort_74 ?_
      refine wp_top (ix_add rfl rfl) ?_
      refine wp_putI pX6_167 tA_235 rfl ⟨rfl, rfl⟩ (Nat.le_of_ble_eq_true rfl) dX6_takesSort_75 ?_
      refine wp_aload_n dX6_takesSort_78 rfl ?_
      refine wp_getJ fX6_186 tA_235 rfl (Nat.le_of_ble_eq_true rfl) dX6_takesSort_79 (so_at (hX.u10 _)) ?_
      refine wp_bipush (v := (-6)) dX6_takesSort_82 (by decide) ?_
      refine wp_icmp_eq (tgt := 91) dX6_takesSort_84 (by decide) (fun h84 => ?_) (fun h84 => ?_)
      · refine wp_iconst (v := 0) dX6_takesSort_91 (by decide) ?_
        exact wp_iret dX6_takesSort_92 rfl rfl rfl (by
      first
        | exact absurd h66 (by decide)
        | exact absurd rfl h66
        | exact absurd h84 (by decide)
        | exact absurd rfl h84
        | (have := hK _ ⟨fun e => absurd e (by rw [eS]; simp), fun s e => by rw [eS] at e; cases e; exact (hX.u10 _).u8 _⟩; rwa [b01_t (by rw [eS]; rfl)] at this)
        | (have := hK _ ⟨fun e => (hX.u10 _).u8 (a + 0), fun s e => absurd e (by rw [eS]; simp)⟩; rwa [b01_f (by rw [eS]; simp)] at this))
      · refine wp_iconst (v := 1) dX6_takesSort_87 (by decide) ?_
        refine wp_goto (tgt := 92) dX6_takesSort_88 (by decide) ?_
        exact wp_iret dX6_takesSort_92 rfl rfl rfl (by
      first
        | exact absurd h66 (by decide)
        | exact absurd rfl h66
        | exact absurd h84 (by decide)
        | exact absurd rfl h84
        | (have := hK _ ⟨fun e => absurd e (by rw [eS]; simp), fun s e => by rw [eS] at e; cases e; exact (hX.u10 _).u8 _⟩; rwa [b01_t (by rw [eS]; rfl)] at this)
        | (have := hK _ ⟨fun e => (hX.u10 _).u8 (a + 0), fun s e => absurd e (by rw [eS]; simp)⟩; rwa [b01_f (by rw [eS]; simp)] at this))

