/-! THE LAW: its small methods -/
section IROWS
variable {γ : Gm} {l : Launch} {y : Mt} {d nE nX pc n : Nat} {L : List (Option Value)} {S : List Value} {M : Mm} {R : Rm} {K : Option Value → Nat → Mm → Rm → Prop}
theorem wp_ishr {x z : Int32} (hd : decode y.2.1 pc = .ok (.ishr, 1)) (k : WP γ l y d nE nX (pc + 1) L (.int (x >>> (z &&& 31)) :: S) n M R K) : WP γ l y d nE nX pc L (.int z :: .int x :: S) n M R K :=
  fun p e R0 s m args below meth c Q H locs ls C hr hW h1 h2 hl => lv_ishr C.1 C.2.1 hd (k p e R0 s m args below meth c Q H locs ls C hr hW h1 h2 hl)
end IROWS
/-- an array of numbers of the law's own -/
def AR (a N : Nat) : Prop := tg a = 10 ∧ ln a = N ∧ 8 ≤ a ∧ a < 247
theorem ar_235 : AR 235 5 := ⟨tA_235, lA_235, by omega, by omega⟩
theorem ar_236 : AR 236 40 := ⟨tA_236, lA_236, by omega, by omega⟩
theorem ar_237 : AR 237 40 := ⟨tA_237, lA_237, by omega, by omega⟩
theorem ar_238 : AR 238 36 := ⟨tA_238, lA_238, by omega, by omega⟩
theorem ar_239 : AR 239 30 := ⟨tA_239, lA_239, by omega, by omega⟩
theorem ar_240 : AR 240 2 := ⟨tA_240, lA_240, by omega, by omega⟩
theorem ar_241 : AR 241 60 := ⟨tA_241, lA_241, by omega, by omega⟩
theorem ar_242 : AR 242 5 := ⟨tA_242, lA_242, by omega, by omega⟩
theorem ar_243 : AR 243 40 := ⟨tA_243, lA_243, by omega, by omega⟩
theorem ar_244 : AR 244 40 := ⟨tA_244, lA_244, by omega, by omega⟩
theorem ar_245 : AR 245 36 := ⟨tA_245, lA_245, by omega, by omega⟩
theorem ar_246 : AR 246 30 := ⟨tA_246, lA_246, by omega, by omega⟩
/-- the low end of a number, left over by n -/
def lowN (v : Int32) (n : Nat) : Nat := v.toBitVec.toNat % 2 ^ 31 % n
theorem lowN_lt (v : Int32) {n : Nat} (h : 0 < n) : lowN v n < n := Nat.mod_lt _ h
theorem two_t (t : Int32) : (2 : Int32) * t = t + t := by rw [show (2 : Int32) = 1 + 1 from rfl, Int32.add_mul, Int32.one_mul]
/-- the first k of f, then g -/
def cpN (f g : Nat → Int32) (k : Nat) : Nat → Int32 := fun j => if j < k then f j else g j
theorem cpN_0 (f g : Nat → Int32) : cpN f g 0 = g := rfl
theorem cpN_s (f g : Nat → Int32) (k : Nat) : up (cpN f g k) k (f k) = cpN f g (k + 1) := by
  funext j
  unfold cpN
  by_cases h : j = k
  · subst h
    rw [up_s, if_pos (by omega)]
  · rw [up_n _ _ h]
    by_cases h2 : j < k
    · rw [if_pos h2, if_pos (by omega)]
    · rw [if_neg h2, if_neg (by omega)]
set_option maxRecDepth 100000 in
set_option maxHeartbeats 4000000 in
theorem s_L_cell {γ : Gm} {l : Launch} {M : Mm} {R : Rm} {K : KT} {k : Nat}  (hL : γ.2.2.2.2.1 ≤ 260) (hk : k < 100) (hK : ∀ v, K (some (.int v)) 247 M R) : CL γ l mL_cell 0 247 247 [.ref 4, .int (nI k)] M R K := by
  show WP γ l mL_cell 0 247 247 0 [some (.ref 4), some (.int (nI k))] [] 247 M R K
  refine wp_iload_n dL_cell_0 rfl ?_
  refine wp_aload_n dL_cell_1 rfl ?_
  refine wp_slen dL_cell_2 ?_
  refine wp_icN_ge (a := k) (b := γ.2.2.2.2.1) (tgt := 12) dL_cell_3 (by decide) rfl rfl (by omega) (by omega) (fun h3 => ?_) (fun h3 => ?_)
  · refine wp_ldc (v := 1033600849) dL_cell_12 q349 ?_
    refine wp_iload_n dL_cell_14 rfl ?_
    refine wp_iconst (v := 1) dL_cell_15 (by decide) ?_
    refine wp_iadd dL_cell_16 ?_
    refine wp_imul dL_cell_17 ?_
    refine wp_ldc (v := 650700451) dL_cell_18 q350 ?_
    refine wp_iadd dL_cell_20 ?_
    exact wp_iret dL_cell_21 rfl rfl rfl (hK _)
  · refine wp_aload_n dL_cell_6 rfl ?_
    refine wp_iload_n dL_cell_7 rfl ?_
    refine wp_sld (i := k) rfl (by omega) (by omega) dL_cell_8 ?_
    refine wp_goto (tgt := 21) dL_cell_9 (by decide) ?_
    exact wp_iret dL_cell_21 rfl rfl rfl (hK _)

set_option maxRecDepth 100000 in
set_option maxHeartbeats 4000000 in
theorem s_L_low {γ : Gm} {l : Launch} {M : Mm} {R : Rm} {K : KT} {v : Int32} {n : Nat}  (h0 : 0 < n) (hn : n < 2 ^ 31) (hK : K (some (.int (nI (lowN v n)))) 247 M R) : CL γ l mL_low 0 247 247 [.int v, .int (nI n)] M R K := by
  show WP γ l mL_low 0 247 247 0 [some (.int v), some (.int (nI n))] [] 247 M R K
  refine wp_iload_n dL_low_0 rfl ?_
  refine wp_ldc (v := 2147483647) dL_low_1 q354 ?_
  refine wp_iand dL_low_3 ?_
  refine wp_iload_n dL_low_4 rfl ?_
  refine wp_irem dL_low_5 (nI_ne0 h0 hn) ?_
  exact wp_iret dL_low_6 rfl rfl rfl (by rw [pk_and v (m := 2147483647) 31 (by decide), pk_rem (Nat.mod_lt _ (by decide)) h0 hn]; exact hK)

set_option maxRecDepth 100000 in
set_option maxHeartbeats 4000000 in
theorem s_L_bound {γ : Gm} {l : Launch} {M : Mm} {R : Rm} {K : KT} {v : Int32}  (hK : K (some (.int (bnd v))) 247 M R) : CL γ l mL_bound 0 247 247 [.int v] M R K := by
  show WP γ l mL_bound 0 247 247 0 [some (.int v)] [] 247 M R K
  refine wp_iload_n dL_bound_0 rfl ?_
  refine wp_sipush (v := 9999) dL_bound_1 (by decide) ?_
  refine wp_icmp_le (tgt := 13) dL_bound_4 (by decide) (fun h4 => ?_) (fun h4 => ?_)
  · refine wp_iload_n dL_bound_13 rfl ?_
    refine wp_sipush (v := (-9999)) dL_bound_14 (by decide) ?_
    refine wp_icmp_ge (tgt := 26) dL_bound_17 (by decide) (fun h17 => ?_) (fun h17 => ?_)
    · refine wp_iload_n dL_bound_26 rfl ?_
      exact wp_iret dL_bound_27 rfl rfl rfl (by
    have e1 : (9999 : Int32).toInt = 9999 := by decide
    have e2 : (-9999 : Int32).toInt = -9999 := by decide
    unfold bnd at hK
    (repeat' split at hK) <;> first | exact hK | (exfalso; simp only [Int32.lt_iff_toInt_lt, Int32.le_iff_toInt_le, ← Int32.toInt_inj, e1, e2] at *; omega))
    · refine wp_sipush (v := (-9999)) dL_bound_20 (by decide) ?_
      refine wp_goto (tgt := 27) dL_bound_23 (by decide) ?_
      exact wp_iret dL_bound_27 rfl rfl rfl (by
    have e1 : (9999 : Int32).toInt = 9999 := by decide
    have e2 : (-9999 : Int32).toInt = -9999 := by decide
    unfold bnd at hK
    (repeat' split at hK) <;> first | exact hK | (exfalso; simp only [Int32.lt_iff_toInt_lt, Int32.le_iff_toInt_le, ← Int32.toInt_inj, e1, e2] at *; omega))
  · refine wp_sipush (v := 9999) dL_bound_7 (by decide) ?_
    refine wp_goto (tgt := 27) dL_bound_10 (by decide) ?_
    exact wp_iret dL_bound_27 rfl rfl rfl (by
    have e1 : (9999 : Int32).toInt = 9999 := by decide
    have e2 : (-9999 : Int32).toInt = -9999 := by decide
    unfold bnd at hK
    (repeat' split at hK) <;> first | exact hK | (exfalso; simp only [Int32.lt_iff_toInt_lt, Int32.le_iff_toInt_le, ← Int32.toInt_inj, e1, e2] at *; omega))

set_option maxRecDepth 100000 in
set_option maxHeartbeats 4000000 in
theorem s_L_abs {γ : Gm} {l : Launch} {M : Mm} {R : Rm} {K : KT} {v : Int32}  (hK : K (some (.int (szI v))) 247 M R) : CL γ l mL_abs 0 247 247 [.int v] M R K := by
  show WP γ l mL_abs 0 247 247 0 [some (.int v)] [] 247 M R K
  refine wp_iload_n dL_abs_0 rfl ?_
  refine wp_if_ge (tgt := 9) dL_abs_1 (by decide) (fun h1 => ?_) (fun h1 => ?_)
  · refine wp_iload_n dL_abs_9 rfl ?_
    exact wp_iret dL_abs_10 rfl rfl rfl (by unfold szI at hK; (repeat' split at hK) <;> first | exact hK | (exfalso; simp only [Int32.lt_iff_toInt_lt, Int32.le_iff_toInt_le, ← Int32.toInt_inj] at *; omega))
  · refine wp_iload_n dL_abs_4 rfl ?_
    refine wp_ineg dL_abs_5 ?_
    refine wp_goto (tgt := 10) dL_abs_6 (by decide) ?_
    exact wp_iret dL_abs_10 rfl rfl rfl (by unfold szI at hK; (repeat' split at hK) <;> first | exact hK | (exfalso; simp only [Int32.lt_iff_toInt_lt, Int32.le_iff_toInt_le, ← Int32.toInt_inj] at *; omega))

set_option maxRecDepth 100000 in
set_option maxHeartbeats 4000000 in
theorem s_L_push {γ : Gm} {l : Launch} {M : Mm} {R : Rm} {K : KT} {aq ar k p : Nat} {so he f st : Int32}  (hq : AR aq 5) (hr : AR ar 30) (hk : k < 6) (h0 : M ar (5 * k) = so) (h1 : M ar (5 * k + 1) = he) (h2 : M ar (5 * k + 2) = nI p) (h3 : M ar (5 * k + 3) = f) (hst : M aq 3 = st) (hp1 : 1 ≤ p) (hp2 : p ≤ 60) (hK : K (some (.int (pushV so he (nI p) (remI (st + f) (nI p))))) 247 M R) : CL γ l mL_push 0 247 247 [.int (nI k), .ref aq, .ref ar] M R K := by
  show WP γ l mL_push 0 247 247 0 [some (.int (nI k)), some (.ref aq), some (.ref ar), none, none, none] [] 247 M R K
  refine wp_aload_n dL_push_0 rfl ?_
  refine wp_iconst (v := 5) dL_push_1 (by decide) ?_
  refine wp_iload_n dL_push_2 rfl ?_
  refine wp_imul dL_push_3 ?_
  refine wp_iconst (v := 1) dL_push_4 (by decide) ?_
  refine wp_iadd dL_push_5 ?_
  refine wp_iadn (i := ((5 * k) + 1)) (ix_add (ix_mul rfl rfl) rfl) hr.1 hr.2.2.1 (by rw [hr.2.1]; omega) hr.2.2.2 dL_push_6 (h1) ?_
  refine wp_istore_n (L' := [some (.int (nI k)), some (.ref aq), some (.ref ar), some (.int he), none, none]) dL_push_7 (by decide) rfl ?_
  refine wp_aload_n dL_push_8 rfl ?_
  refine wp_iconst (v := 5) dL_push_9 (by decide) ?_
  refine wp_iload_n dL_push_10 rfl ?_
  refine wp_imul dL_push_11 ?_
  refine wp_iconst (v := 2) dL_push_12 (by decide) ?_
  refine wp_iadd dL_push_13 ?_
  refine wp_iadn (i := ((5 * k) + 2)) (v := nI p) (ix_add (ix_mul rfl rfl) rfl) hr.1 hr.2.2.1 (by rw [hr.2.1]; omega) hr.2.2.2 dL_push_14 (h2) ?_
  refine wp_istore (L' := [some (.int (nI k)), some (.ref aq), some (.ref ar), some (.int he), some (.int (nI p)), none]) dL_push_15 (by decide) rfl ?_
  refine wp_aload_n dL_push_17 rfl ?_
  refine wp_iconst (v := 3) dL_push_18 (by decide) ?_
  refine wp_iadn (i := 3) rfl hq.1 hq.2.2.1 (by rw [hq.2.1]; omega) hq.2.2.2 dL_push_19 (hst) ?_
  refine wp_aload_n dL_push_20 rfl ?_
  refine wp_iconst (v := 5) dL_push_21 (by decide) ?_
  refine wp_iload_n dL_push_22 rfl ?_
  refine wp_imul dL_push_23 ?_
  refine wp_iconst (v := 3) dL_push_24 (by decide) ?_
  refine wp_iadd dL_push_25 ?_
  refine wp_iadn (i := ((5 * k) + 3)) (ix_add (ix_mul rfl rfl) rfl) hr.1 hr.2.2.1 (by rw [hr.2.1]; omega) hr.2.2.2 dL_push_26 (h3) ?_
  refine wp_iadd dL_push_27 ?_
  refine wp_iload dL_push_28 rfl ?_
  refine wp_irem dL_push_30 (nI_ne0 (by omega) (by omega)) ?_
  refine wp_istore (L' := [some (.int (nI k)), some (.ref aq), some (.ref ar), some (.int he), some (.int (nI p)), some (.int _)]) dL_push_31 (by decide) rfl ?_
  refine wp_aload_n dL_push_33 rfl ?_
  refine wp_iconst (v := 5) dL_push_34 (by decide) ?_
  refine wp_iload_n dL_push_35 rfl ?_
  refine wp_imul dL_push_36 ?_
  refine wp_iadn (i := (5 * k)) (ix_mul rfl rfl) hr.1 hr.2.2.1 (by rw [hr.2.1]; omega) hr.2.2.2 dL_push_37 (h0) ?_
  refine wp_if_ne (tgt := 43) dL_push_38 (by decide) (fun h38 => ?_) (fun h38 => ?_)
  · refine wp_aload_n dL_push_43 rfl ?_
    refine wp_iconst (v := 5) dL_push_44 (by decide) ?_
    refine wp_iload_n dL_push_45 rfl ?_
    refine wp_imul dL_push_46 ?_
    refine wp_iadn (i := (5 * k)) (ix_mul rfl rfl) hr.1 hr.2.2.1 (by rw [hr.2.1]; omega) hr.2.2.2 dL_push_47 (h0) ?_
    refine wp_iconst (v := 1) dL_push_48 (by decide) ?_
    refine wp_icmp_ne (tgt := 66) dL_push_49 (by decide) (fun h49 => ?_) (fun h49 => ?_)
    · refine wp_aload_n dL_push_66 rfl ?_
      refine wp_iconst (v := 5) dL_push_67 (by decide) ?_
      refine wp_iload_n dL_push_68 rfl ?_
      refine wp_imul dL_push_69 ?_
      refine wp_iadn (i := (5 * k)) (ix_mul rfl rfl) hr.1 hr.2.2.1 (by rw [hr.2.1]; omega) hr.2.2.2 dL_push_70 (h0) ?_
      refine wp_iconst (v := 2) dL_push_71 (by decide) ?_
      refine wp_icmp_ne (tgt := 92) dL_push_72 (by decide) (fun h72 => ?_) (fun h72 => ?_)
      · refine wp_iload_n dL_push_92 rfl ?_
        refine wp_iload dL_push_93 rfl ?_
        refine wp_iload dL_push_95 rfl ?_
        refine wp_iload dL_push_97 rfl ?_
        refine wp_isub dL_push_99 ?_
        refine wp_icmp_ge (tgt := 110) dL_push_100 (by decide) (fun h100 => ?_) (fun h100 => ?_)
        · refine wp_iconst (v := 4) dL_push_110 (by decide) ?_
          refine wp_iload dL_push_111 rfl ?_
          refine wp_iload dL_push_113 rfl ?_
          refine wp_isub dL_push_115 ?_
          refine wp_imul dL_push_116 ?_
          refine wp_iload dL_push_117 rfl ?_
          refine wp_isub dL_push_119 ?_
          refine wp_imul dL_push_120 ?_
          refine wp_iload dL_push_121 rfl ?_
          refine wp_idiv dL_push_123 (nI_ne0 (by omega) (by omega)) ?_
          exact wp_iret dL_push_124 rfl rfl rfl (by rw [show remI (st + f) (nI p) = st + f - (st + f) / nI p * nI p from rfl, pushV, if_neg h38, if_neg h49, if_neg h72] at hK; first | (rw [if_pos (Int32.not_le.mp h100)] at hK; exact hK) | (rw [if_neg (Int32.not_lt.mpr h100)] at hK; exact hK))
        · refine wp_iconst (v := 4) dL_push_103 (by decide) ?_
          refine wp_iload dL_push_104 rfl ?_
          refine wp_imul dL_push_106 ?_
          refine wp_goto (tgt := 117) dL_push_107 (by decide) ?_
          refine wp_iload dL_push_117 rfl ?_
          refine wp_isub dL_push_119 ?_
          refine wp_imul dL_push_120 ?_
          refine wp_iload dL_push_121 rfl ?_
          refine wp_idiv dL_push_123 (nI_ne0 (by omega) (by omega)) ?_
          exact wp_iret dL_push_124 rfl rfl rfl (by rw [show remI (st + f) (nI p) = st + f - (st + f) / nI p * nI p from rfl, pushV, if_neg h38, if_neg h49, if_neg h72] at hK; first | (rw [if_pos (Int32.not_le.mp h100)] at hK; exact hK) | (rw [if_neg (Int32.not_lt.mpr h100)] at hK; exact hK))
      · refine wp_iload dL_push_75 rfl ?_
        refine wp_iload dL_push_77 rfl ?_
        refine wp_iadd dL_push_79 ?_
        refine wp_iload dL_push_80 rfl ?_
        refine wp_icmp_ge (tgt := 89) dL_push_82 (by decide) (fun h82 => ?_) (fun h82 => ?_)
        · refine wp_iload_n dL_push_89 rfl ?_
          refine wp_ineg dL_push_90 ?_
          exact wp_iret dL_push_91 rfl rfl rfl (by rw [show remI (st + f) (nI p) = st + f - (st + f) / nI p * nI p from rfl, pushV, if_neg h38, if_neg h49, if_pos h72, two_t] at hK; first | (rw [if_pos (Int32.not_le.mp h82)] at hK; exact hK) | (rw [if_neg (Int32.not_lt.mpr h82)] at hK; exact hK))
        · refine wp_iload_n dL_push_85 rfl ?_
          refine wp_goto (tgt := 91) dL_push_86 (by decide) ?_
          exact wp_iret dL_push_91 rfl rfl rfl (by rw [show remI (st + f) (nI p) = st + f - (st + f) / nI p * nI p from rfl, pushV, if_neg h38, if_neg h49, if_pos h72, two_t] at hK; first | (rw [if_pos (Int32.not_le.mp h82)] at hK; exact hK) | (rw [if_neg (Int32.not_lt.mpr h82)] at hK; exact hK))
    · refine wp_iload_n dL_push_52 rfl ?_
      refine wp_iload dL_push_53 rfl ?_
      refine wp_iload dL_push_55 rfl ?_
      refine wp_iadd dL_push_57 ?_
      refine wp_iload dL_push_58 rfl ?_
      refine wp_isub dL_push_60 ?_
      refine wp_imul dL_push_61 ?_
      refine wp_iload dL_push_62 rfl ?_
      refine wp_idiv dL_push_64 (nI_ne0 (by omega) (by omega)) ?_
      exact wp_iret dL_push_65 rfl rfl rfl (by rw [show remI (st + f) (nI p) = st + f - (st + f) / nI p * nI p from rfl, pushV, if_neg h38, if_pos h49, two_t] at hK; exact hK)
  · refine wp_iload_n dL_push_41 rfl ?_
    exact wp_iret dL_push_42 rfl rfl rfl (by rw [show remI (st + f) (nI p) = st + f - (st + f) / nI p * nI p from rfl, pushV, if_pos h38] at hK; exact hK)

set_option maxRecDepth 100000 in
set_option maxHeartbeats 4000000 in
theorem s_L_copy {γ : Gm} {l : Launch} {M : Mm} {R : Rm} {K : KT} {af ab N N2 m : Nat}  (hf : AR af N) (ht : AR ab N2) (hne : af ≠ ab) (h1 : m ≤ N) (h2 : m ≤ N2) (hm : m < 2 ^ 31) (hK : K none 247 (up M ab (cpN (M af) (M ab) m)) R) : CL γ l mL_copy 0 247 247 [.ref af, .ref ab, .int (nI m)] M R K := by
  show WP γ l mL_copy 0 247 247 0 [some (.ref af), some (.ref ab), some (.int (nI m)), none] [] 247 M R K
  have loop : ∀ (q k : Nat), q + k = m → WP γ l mL_copy 0 247 247 2 [some (.ref af), some (.ref ab), some (.int (nI m)), some (.int (nI k))] [] 247 (up M ab (cpN (M af) (M ab) k)) R K := by
    intro q
    induction q with
    | zero =>
      intro k hq
      refine wp_iload_n dL_copy_2 rfl ?_
      refine wp_iload_n dL_copy_3 rfl ?_
      refine wp_icN_ge (a := k) (b := m) (tgt := 19) dL_copy_4 (by decide) rfl rfl (by omega) (by omega) (fun h4 => ?_) (fun h4 => absurd h4 (by omega))
      exact wp_vret dL_copy_19 rfl rfl (by rw [show k = m by omega]; exact hK)
    | succ q ih =>
      intro k hq
      refine wp_iload_n dL_copy_2 rfl ?_
      refine wp_iload_n dL_copy_3 rfl ?_
      refine wp_icN_ge (a := k) (b := m) (tgt := 19) dL_copy_4 (by decide) rfl rfl (by omega) (by omega) (fun h4 => absurd h4 (by omega)) (fun h4 => ?_)
      refine wp_aload_n dL_copy_7 rfl ?_
      refine wp_iload_n dL_copy_8 rfl ?_
      refine wp_aload_n dL_copy_9 rfl ?_
      refine wp_iload_n dL_copy_10 rfl ?_
      refine wp_iadn (i := k) rfl hf.1 hf.2.2.1 (by rw [hf.2.1]; omega) hf.2.2.2 dL_copy_11 (congrFun (up_n _ _ hne) k) ?_
      refine wp_iast (i := k) rfl ht.1 ht.2.2.1 (by rw [ht.2.1]; omega) ht.2.2.2 dL_copy_12 ?_
      refine wp_iinc (v := nI (k + 1)) (L' := [some (.ref af), some (.ref ab), some (.int (nI m)), some (.int (nI (k + 1)))]) dL_copy_13 (by decide) rfl (inc_1 _) rfl ?_
      refine wp_goto (tgt := 2) dL_copy_16 (by decide) ?_
      refine wp_mem (M' := up M ab (cpN (M af) (M ab) (k + 1))) (by rw [u2_up, cpN_s]) ?_
      exact ih (k + 1) (by omega)
  refine wp_iconst (v := 0) dL_copy_0 (by decide) ?_
  refine wp_istore_n (L' := [some (.ref af), some (.ref ab), some (.int (nI m)), some (.int _)]) dL_copy_1 (by decide) rfl ?_
  refine wp_mem (M' := up M ab (cpN (M af) (M ab) 0)) (by rw [cpN_0, up_eta]) ?_
  exact loop m 0 (by omega)

