/-! THE REFERENCE: a step -/
def remI (x z : Int32) : Int32 := x - x / z * z
/-- a recipe's push, t of its period gone -/
def pushV (sort height period t : Int32) : Int32 := if sort = 0 then height else if sort = 1 then height * (2 * t - period) / period else if sort = 2 then (if 2 * t < period then height else -height) else height * (4 * (if t < period - t then t else period - t) - period) / period
def pushS (sg : Nat → Int32) (k : Nat) : Int32 := pushV (sg (86 + 6 * k + 1)) (sg (86 + 6 * k + 2)) (sg (86 + 6 * k + 3)) (remI (sg 3 + sg (86 + 6 * k + 4)) (sg (86 + 6 * k + 3)))
theorem pushS_up (sg : Nat → Int32) (k : Nat) (v : Int32) : pushS (up sg (86 + 6 * k + 5) v) k = pushS sg k := by
  unfold pushS
  rw [up_n _ _ (by omega), up_n _ _ (by omega), up_n _ _ (by omega), up_n _ _ (by omega), up_n _ _ (by omega)]
set_option maxRecDepth 100000 in
set_option maxHeartbeats 4000000 in
theorem s_X6_push {γ : Gm} {l : Launch} {M : Mm} {R : Rm} {K : KT} {k : Nat} {sg : Nat → Int32} (hs : M 236 = sg) (hM : RM R) (hk : k < 6) (hz : ¬ sg (86 + 6 * k + 3) = 0) (hK : K (some (.int (pushS sg k))) 243 M R) : CL γ l mX6_push 1 243 243 [.ref 235, .int (nI k)] M R K := by
  show WP γ l mX6_push 1 243 243 0 [some (.ref 235), some (.int (nI k)), none, none, none, none] [] 243 M R K
  rw [pushS] at hK
  refine wp_aload_n dX6_push_0 rfl ?_
  refine wp_iload_n dX6_push_1 rfl ?_
  refine wp_iconst (v := 2) dX6_push_2 (by decide) ?_
  refine wp_cV2 (z := mX6_paddlePart) (n' := 243) kX6_43 dX6_push_3 (Nat.le_of_ble_eq_true rfl) (Nat.le_of_ble_eq_true rfl) tA_235 (Nat.le_of_ble_eq_true rfl) (Nat.le_of_ble_eq_true rfl) (Nat.le_refl _) (Nat.le_refl _) (s_X6_paddlePart hs (k := k) (j := 2) hM (by omega) (by omega) (wp_af ?_))
  refine wp_topv (fun hg e_hg => ?_)
  refine wp_istore_n (L' := [some (.ref 235), some (.int (nI k)), some (.int hg), none, none, none]) dX6_push_6 (by decide) rfl ?_
  refine wp_aload_n dX6_push_7 rfl ?_
  refine wp_iload_n dX6_push_8 rfl ?_
  refine wp_iconst (v := 3) dX6_push_9 (by decide) ?_
  refine wp_cV2 (z := mX6_paddlePart) (n' := 243) kX6_43 dX6_push_10 (Nat.le_of_ble_eq_true rfl) (Nat.le_of_ble_eq_true rfl) tA_235 (Nat.le_of_ble_eq_true rfl) (Nat.le_of_ble_eq_true rfl) (Nat.le_refl _) (Nat.le_refl _) (s_X6_paddlePart hs (k := k) (j := 3) hM (by omega) (by omega) (wp_af ?_))
  refine wp_topv (fun pd e_pd => ?_)
  refine wp_istore_n (L' := [some (.ref 235), some (.int (nI k)), some (.int hg), some (.int pd), none, none]) dX6_push_13 (by decide) rfl ?_
  refine wp_aload_n dX6_push_14 rfl ?_
  refine wp_getQ fX6_7 tA_235 rfl hM.f0 (by decide) (Nat.le_of_ble_eq_true rfl) dX6_push_15 ?_
  refine wp_iconst (v := 3) dX6_push_18 (by decide) ?_
  refine wp_iadn (i := 3) rfl tA_236 (Nat.le_of_ble_eq_true rfl) (by rw [lA_236]; omega) (Nat.le_of_ble_eq_true rfl) dX6_push_19 (congrFun hs _) ?_
  refine wp_aload_n dX6_push_20 rfl ?_
  refine wp_iload_n dX6_push_21 rfl ?_
  refine wp_iconst (v := 4) dX6_push_22 (by decide) ?_
  refine wp_cV2 (z := mX6_paddlePart) (n' := 243) kX6_43 dX6_push_23 (Nat.le_of_ble_eq_true rfl) (Nat.le_of_ble_eq_true rfl) tA_235 (Nat.le_of_ble_eq_true rfl) (Nat.le_of_ble_eq_true rfl) (Nat.le_refl _) (Nat.le_refl _) (s_X6_paddlePart hs (k := k) (j := 4) hM (by omega) (by omega) (wp_af ?_))
  refine wp_iadd dX6_push_26 ?_
  refine wp_iload_n dX6_push_27 rfl ?_
  refine wp_irem dX6_push_28 (by rw [e_pd]; exact hz) ?_
  refine wp_topv (fun t e_t => ?_)
  refine wp_istore (L' := [some (.ref 235), some (.int (nI k)), some (.int hg), some (.int pd), some (.int t), none]) dX6_push_29 (by decide) rfl ?_
  refine wp_iload dX6_push_31 rfl ?_
  refine wp_iload_n dX6_push_33 rfl ?_
  refine wp_iload dX6_push_34 rfl ?_
  refine wp_isub dX6_push_36 ?_
  refine wp_icmp_ge (tgt := 45) dX6_push_37 (by decide) (fun h37 => ?_) (fun h37 => ?_)
  · have e_d : (if t < pd - t then t else pd - t) = pd - t := if_neg (Int32.not_lt.mpr h37)
    refine wp_iload_n dX6_push_45 rfl ?_
    refine wp_iload dX6_push_46 rfl ?_
    refine wp_isub dX6_push_48 ?_
    refine wp_istore (L' := [some (.ref 235), some (.int (nI k)), some (.int hg), some (.int pd), some (.int t), some (.int _)]) dX6_push_49 (by decide) rfl ?_
    refine wp_aload_n dX6_push_51 rfl ?_
    refine wp_iload_n dX6_push_52 rfl ?_
    refine wp_iconst (v := 1) dX6_push_53 (by decide) ?_
    refine wp_cV2 (z := mX6_paddlePart) (n' := 243) kX6_43 dX6_push_54 (Nat.le_of_ble_eq_true rfl) (Nat.le_of_ble_eq_true rfl) tA_235 (Nat.le_of_ble_eq_true rfl) (Nat.le_of_ble_eq_true rfl) (Nat.le_refl _) (Nat.le_refl _) (s_X6_paddlePart hs (k := k) (j := 1) hM (by omega) (by omega) (wp_af ?_))
    refine wp_tswitch [(0, 84), (1, 86), (2, 97)] 112 dX6_push_57 (by decide) (by decide) (by decide +kernel) ?_
    refine wp_sw (fun h57_0 => ?_) (fun h57_0 => ?_)
    · refine wp_iload_n dX6_push_84 rfl ?_
      exact wp_iret dX6_push_85 rfl rfl rfl (by rw [← e_hg, ← e_pd, show remI (sg 3 + sg (86 + 6 * k + 4)) pd = t from e_t.symm, pushV, e_d] at hK; (repeat' split at hK) <;> first | exact hK | contradiction | (exfalso; simp only [Int32.lt_iff_toInt_lt, Int32.le_iff_toInt_le, ← Int32.toInt_inj] at *; omega))
    refine wp_sw (fun h57_1 => ?_) (fun h57_1 => ?_)
    · refine wp_iload_n dX6_push_86 rfl ?_
      refine wp_iconst (v := 2) dX6_push_87 (by decide) ?_
      refine wp_iload dX6_push_88 rfl ?_
      refine wp_imul dX6_push_90 ?_
      refine wp_iload_n dX6_push_91 rfl ?_
      refine wp_isub dX6_push_92 ?_
      refine wp_imul dX6_push_93 ?_
      refine wp_iload_n dX6_push_94 rfl ?_
      refine wp_idiv dX6_push_95 (by rw [e_pd]; exact hz) ?_
      exact wp_iret dX6_push_96 rfl rfl rfl (by rw [← e_hg, ← e_pd, show remI (sg 3 + sg (86 + 6 * k + 4)) pd = t from e_t.symm, pushV, e_d] at hK; (repeat' split at hK) <;> first | exact hK | contradiction | (exfalso; simp only [Int32.lt_iff_toInt_lt, Int32.le_iff_toInt_le, ← Int32.toInt_inj] at *; omega))
    refine wp_sw (fun h57_2 => ?_) (fun h57_2 => ?_)
    · refine wp_iconst (v := 2) dX6_push_97 (by decide) ?_
      refine wp_iload dX6_push_98 rfl ?_
      refine wp_imul dX6_push_100 ?_
      refine wp_iload_n dX6_push_101 rfl ?_
      refine wp_icmp_ge (tgt := 109) dX6_push_102 (by decide) (fun h102 => ?_) (fun h102 => ?_)
      · refine wp_iload_n dX6_push_109 rfl ?_
        refine wp_ineg dX6_push_110 ?_
        exact wp_iret dX6_push_111 rfl rfl rfl (by rw [← e_hg, ← e_pd, show remI (sg 3 + sg (86 + 6 * k + 4)) pd = t from e_t.symm, pushV, e_d] at hK; (repeat' split at hK) <;> first | exact hK | contradiction | (exfalso; simp only [Int32.lt_iff_toInt_lt, Int32.le_iff_toInt_le, ← Int32.toInt_inj] at *; omega))
      · refine wp_iload_n dX6_push_105 rfl ?_
        refine wp_goto (tgt := 111) dX6_push_106 (by decide) ?_
        exact wp_iret dX6_push_111 rfl rfl rfl (by rw [← e_hg, ← e_pd, show remI (sg 3 + sg (86 + 6 * k + 4)) pd = t from e_t.symm, pushV, e_d] at hK; (repeat' split at hK) <;> first | exact hK | contradiction | (exfalso; simp only [Int32.lt_iff_toInt_lt, Int32.le_iff_toInt_le, ← Int32.toInt_inj] at *; omega))
    refine wp_sw0 ?_
    refine wp_iload_n dX6_push_112 rfl ?_
    refine wp_iconst (v := 4) dX6_push_113 (by decide) ?_
    refine wp_iload dX6_push_114 rfl ?_
    refine wp_imul dX6_push_116 ?_
    refine wp_iload_n dX6_push_117 rfl ?_
    refine wp_isub dX6_push_118 ?_
    refine wp_imul dX6_push_119 ?_
    refine wp_iload_n dX6_push_120 rfl ?_
    refine wp_idiv dX6_push_121 (by rw [e_pd]; exact hz) ?_
    exact wp_iret dX6_push_122 rfl rfl rfl (by rw [← e_hg, ← e_pd, show remI (sg 3 + sg (86 + 6 * k + 4)) pd = t from e_t.symm, pushV, e_d] at hK; (repeat' split at hK) <;> first | exact hK | contradiction | (exfalso; simp only [Int32.lt_iff_toInt_lt, Int32.le_iff_toInt_le, ← Int32.toInt_inj] at *; omega))
  · have e_d : (if t < pd - t then t else pd - t) = t := if_pos (Int32.not_le.mp h37)
    refine wp_iload dX6_push_40 rfl ?_
    refine wp_goto (tgt := 49) dX6_push_42 (by decide) ?_
    refine wp_istore (L' := [some (.ref 235), some (.int (nI k)), some (.int hg), some (.int pd), some (.int t), some (.int t)]) dX6_push_49 (by decide) rfl ?_
    refine wp_aload_n dX6_push_51 rfl ?_
    refine wp_iload_n dX6_push_52 rfl ?_
    refine wp_iconst (v := 1) dX6_push_53 (by decide) ?_
    refine wp_cV2 (z := mX6_paddlePart) (n' := 243) kX6_43 dX6_push_54 (Nat.le_of_ble_eq_true rfl) (Nat.le_of_ble_eq_true rfl) tA_235 (Nat.le_of_ble_eq_true rfl) (Nat.le_of_ble_eq_true rfl) (Nat.le_refl _) (Nat.le_refl _) (s_X6_paddlePart hs (k := k) (j := 1) hM (by omega) (by omega) (wp_af ?_))
    refine wp_tswitch [(0, 84), (1, 86), (2, 97)] 112 dX6_push_57 (by decide) (by decide) (by decide +kernel) ?_
    refine wp_sw (fun h57_0 => ?_) (fun h57_0 => ?_)
    · refine wp_iload_n dX6_push_84 rfl ?_
      exact wp_iret dX6_push_85 rfl rfl rfl (by rw [← e_hg, ← e_pd, show remI (sg 3 + sg (86 + 6 * k + 4)) pd = t from e_t.symm, pushV, e_d] at hK; (repeat' split at hK) <;> first | exact hK | contradiction | (exfalso; simp only [Int32.lt_iff_toInt_lt, Int32.le_iff_toInt_le, ← Int32.toInt_inj] at *; omega))
    refine wp_sw (fun h57_1 => ?_) (fun h57_1 => ?_)
    · refine wp_iload_n dX6_push_86 rfl ?_
      refine wp_iconst (v := 2) dX6_push_87 (by decide) ?_
      refine wp_iload dX6_push_88 rfl ?_
      refine wp_imul dX6_push_90 ?_
      refine wp_iload_n dX6_push_91 rfl ?_
      refine wp_isub dX6_push_92 ?_
      refine wp_imul dX6_push_93 ?_
      refine wp_iload_n dX6_push_94 rfl ?_
      refine wp_idiv dX6_push_95 (by rw [e_pd]; exact hz) ?_
      exact wp_iret dX6_push_96 rfl rfl rfl (by rw [← e_hg, ← e_pd, show remI (sg 3 + sg (86 + 6 * k + 4)) pd = t from e_t.symm, pushV, e_d] at hK; (repeat' split at hK) <;> first | exact hK | contradiction | (exfalso; simp only [Int32.lt_iff_toInt_lt, Int32.le_iff_toInt_le, ← Int32.toInt_inj] at *; omega))
    refine wp_sw (fun h57_2 => ?_) (fun h57_2 => ?_)
    · refine wp_iconst (v := 2) dX6_push_97 (by decide) ?_
      refine wp_iload dX6_push_98 rfl ?_
      refine wp_imul dX6_push_100 ?_
      refine wp_iload_n dX6_push_101 rfl ?_
      refine wp_icmp_ge (tgt := 109) dX6_push_102 (by decide) (fun h102 => ?_) (fun h102 => ?_)
      · refine wp_iload_n dX6_push_109 rfl ?_
        refine wp_ineg dX6_push_110 ?_
        exact wp_iret dX6_push_111 rfl rfl rfl (by rw [← e_hg, ← e_pd, show remI (sg 3 + sg (86 + 6 * k + 4)) pd = t from e_t.symm, pushV, e_d] at hK; (repeat' split at hK) <;> first | exact hK | contradiction | (exfalso; simp only [Int32.lt_iff_toInt_lt, Int32.le_iff_toInt_le, ← Int32.toInt_inj] at *; omega))
      · refine wp_iload_n dX6_push_105 rfl ?_
        refine wp_goto (tgt := 111) dX6_push_106 (by decide) ?_
        exact wp_iret dX6_push_111 rfl rfl rfl (by rw [← e_hg, ← e_pd, show remI (sg 3 + sg (86 + 6 * k + 4)) pd = t from e_t.symm, pushV, e_d] at hK; (repeat' split at hK) <;> first | exact hK | contradiction | (exfalso; simp only [Int32.lt_iff_toInt_lt, Int32.le_iff_toInt_le, ← Int32.toInt_inj] at *; omega))
    refine wp_sw0 ?_
    refine wp_iload_n dX6_push_112 rfl ?_
    refine wp_iconst (v := 4) dX6_push_113 (by decide) ?_
    refine wp_iload dX6_push_114 rfl ?_
    refine wp_imul dX6_push_116 ?_
    refine wp_iload_n dX6_push_117 rfl ?_
    refine wp_isub dX6_push_118 ?_
    refine wp_imul dX6_push_119 ?_
    refine wp_iload_n dX6_push_120 rfl ?_
    refine wp_idiv dX6_push_121 (by rw [e_pd]; exact hz) ?_
    exact wp_iret dX6_push_122 rfl rfl rfl (by rw [← e_hg, ← e_pd, show remI (sg 3 + sg (86 + 6 * k + 4)) pd = t from e_t.symm, pushV, e_d] at hK; (repeat' split at hK) <;> first | exact hK | contradiction | (exfalso; simp only [Int32.lt_iff_toInt_lt, Int32.le_iff_toInt_le, ← Int32.toInt_inj] at *; omega))

/-- the cell of the paddle of rank k -/
def cel (sg : Nat → Int32) (k : Nat) : Nat := (sg (86 + 6 * k)).toNatClampNeg
/-- what a paddle does in a step: the numbers behind it, and whether it stops -/
def pa1 (sg : Nat → Int32) (k : Nat) : Nat → Int32 := if sg (86 + 6 * k + 5) = 1 then (if sg 2 < szI (sg (6 + cel sg k)) then up sg (86 + 6 * k + 5) 0 else up (up sg (86 + 6 * k + 5) 1) (6 + cel sg k) (pushS sg k)) else sg
def pc1 (sg : Nat → Int32) (k : Nat) : Int32 := if sg (86 + 6 * k + 5) = 1 then (if sg 2 < szI (sg (6 + cel sg k)) then 1 else 0) else 0
def paN (sg : Nat → Int32) : Nat → Nat → Int32
  | 0 => sg
  | k + 1 => pa1 (paN sg k) k
def pcN (sg : Nat → Int32) : Nat → Int32
  | 0 => 0
  | k + 1 => pcN sg k + pc1 (paN sg k) k
/-- what the rows of the paddles must be for a step -/
def PdS (sg : Nat → Int32) (np : Nat) : Prop := ∀ k, k < np → (∃ c, c < 36 ∧ sg (86 + 6 * k) = nI c) ∧ ¬ sg (86 + 6 * k + 3) = 0
theorem pa1_same {sg : Nat → Int32} {k j c : Nat} (hc : sg (86 + 6 * k) = nI c) (h36 : c < 36) (hj : j < 6 ∨ 46 ≤ j) (hn : j ≠ 86 + 6 * k + 5) : pa1 sg k j = sg j := by
  have e : cel sg k = c := by rw [cel, hc, nI_clamp (by omega)]
  unfold pa1
  rw [e]
  split
  · split
    · rw [up_n _ _ hn]
    · rw [up_n _ _ (by omega), up_n _ _ hn]
  · rfl
theorem paN_same {sg : Nat → Int32} {np : Nat} (h : PdS sg np) : ∀ {k : Nat}, k ≤ np → ∀ {j : Nat}, (j < 6 ∨ 46 ≤ j) → (∀ i, j ≠ 91 + 6 * i) → paN sg k j = sg j
  | 0, _, _, _, _ => rfl
  | k + 1, hk, j, hj, hn => by
    obtain ⟨⟨c, h36, hc⟩, -⟩ := h k (by omega)
    have e1 := paN_same h (k := k) (by omega) (j := 86 + 6 * k) (by omega) (fun i => by omega)
    show pa1 (paN sg k) k j = _
    rw [pa1_same (e1.trans hc) h36 hj (by have := hn k; omega)]
    exact paN_same h (by omega) hj hn
set_option maxRecDepth 100000 in
set_option maxHeartbeats 4000000 in
theorem s_X6_pushAll {γ : Gm} {l : Launch} {M : Mm} {R : Rm} {K : KT} {np : Nat} {sg : Nat → Int32} (hs : M 236 = sg) (hM : RM R) (hn : sg 4 = nI np) (h6 : np ≤ 6) (hp : PdS sg np) (hK : K (some (.int (pcN sg np))) 243 (up M 236 (paN sg np)) R) : CL γ l mX6_pushAll 2 243 243 [.ref 235] M R K := by
  show WP γ l mX6_pushAll 2 243 243 0 [some (.ref 235), none, none, none, none] [] 243 M R K
  have loop : ∀ (f k : Nat) (st : Int32) (ro : Nat → Int32), st = pcN sg k → ro = paN sg k → np - k < f → k ≤ np → WP γ l mX6_pushAll 2 243 243 4 [some (.ref 235), some (.int st), some (.int (nI k)), none, none] [] 243 (up M 236 ro) R K := by
    intro f
    induction f with
    | zero => intro k st ro _ _ h; omega
    | succ f ih =>
      intro k st ro hst hro hf hk
      have r4 : ro 4 = nI np := by rw [hro, paN_same hp hk (by omega) (fun i => by omega), hn]
      refine wp_iload_n dX6_pushAll_4 rfl ?_
      refine wp_aload_n dX6_pushAll_5 rfl ?_
      refine wp_getQ fX6_7 tA_235 rfl hM.f0 (by decide) (Nat.le_of_ble_eq_true rfl) dX6_pushAll_6 ?_
      refine wp_iconst (v := 4) dX6_pushAll_9 (by decide) ?_
      refine wp_iadn (i := 4) rfl tA_236 (Nat.le_of_ble_eq_true rfl) (by rw [lA_236]; omega) (Nat.le_of_ble_eq_true rfl) dX6_pushAll_10 ((congrFun (up_s _ _ _) _).trans (r4)) ?_
      refine wp_icN_ge (a := k) (b := np) (tgt := 117) dX6_pushAll_11 (by decide) rfl rfl (by omega) (by omega) (fun h11 => ?_) (fun h11 => ?_)
      · refine wp_iload_n dX6_pushAll_117 rfl ?_
        exact wp_iret dX6_pushAll_118 rfl rfl rfl (by rw [hst, hro, show k = np by omega]; exact hK)
      · obtain ⟨⟨c, h36, hc0⟩, hz0⟩ := hp k h11
        have hc : ro (86 + 6 * k + 0) = nI c := by rw [hro, paN_same hp hk (by omega) (fun i => by omega)]; exact hc0
        have hz : ¬ ro (86 + 6 * k + 3) = 0 := by rw [hro, paN_same hp hk (by omega) (fun i => by omega)]; exact hz0
        have hcel : cel ro k = c := by rw [cel, show ro (86 + 6 * k) = nI c from hc, nI_clamp (by omega)]
        refine wp_aload_n dX6_pushAll_14 rfl ?_
        refine wp_iload_n dX6_pushAll_15 rfl ?_
        refine wp_iconst (v := 0) dX6_pushAll_16 (by decide) ?_
        refine wp_cV2 (z := mX6_paddlePart) (n' := 243) kX6_43 dX6_pushAll_17 (Nat.le_of_ble_eq_true rfl) (Nat.le_of_ble_eq_true rfl) tA_235 (Nat.le_of_ble_eq_true rfl) (Nat.le_of_ble_eq_true rfl) (Nat.le_refl _) (Nat.le_refl _) (s_X6_paddlePart (up_s _ _ _) (k := k) (j := 0) hM (by omega) (by omega) (wp_af ?_))
        refine wp_top (hc) ?_
        refine wp_istore_n (L' := [some (.ref 235), some (.int st), some (.int (nI k)), some (.int (nI c)), none]) dX6_pushAll_20 (by decide) rfl ?_
        refine wp_aload_n dX6_pushAll_21 rfl ?_
        refine wp_iload_n dX6_pushAll_22 rfl ?_
        refine wp_iconst (v := 5) dX6_pushAll_23 (by decide) ?_
        refine wp_cV2 (z := mX6_paddlePart) (n' := 243) kX6_43 dX6_pushAll_24 (Nat.le_of_ble_eq_true rfl) (Nat.le_of_ble_eq_true rfl) tA_235 (Nat.le_of_ble_eq_true rfl) (Nat.le_of_ble_eq_true rfl) (Nat.le_refl _) (Nat.le_refl _) (s_X6_paddlePart (up_s _ _ _) (k := k) (j := 5) hM (by omega) (by omega) (wp_af ?_))
        refine wp_iconst (v := 1) dX6_pushAll_27 (by decide) ?_
        refine wp_icmp_ne (tgt := 111) dX6_pushAll_28 (by decide) (fun h28 => ?_) (fun h28 => ?_)
        · refine wp_iinc (v := nI (k + 1)) (L' := [some (.ref 235), some (.int st), some (.int (nI (k + 1))), some (.int (nI c)), none]) dX6_pushAll_111 (by decide) rfl (inc_1 _) rfl ?_
          refine wp_goto (tgt := 4) dX6_pushAll_114 (by decide) ?_
          refine wp_drop [some (.ref 235), some (.int _), some (.int _), none, none] (by repeat constructor) ?_
          refine ih (k + 1) _ _ ?_ ?_ (by omega) (by omega)
          · show _ = pcN sg k + pc1 (paN sg k) k
            rw [← hst, ← hro, pc1, hcel]
            clear hst hro ih hK
            simp [*]
          · show _ = pa1 (paN sg k) k
            rw [← hro, pa1, hcel]
            clear hst hro ih hK
            simp [*, pushS_up, up_eta]
        · refine wp_aload_n dX6_pushAll_31 rfl ?_
          refine wp_iload_n dX6_pushAll_32 rfl ?_
          refine wp_cV1 (z := mX6_levelOf) (n' := 243) kX6_47 dX6_pushAll_33 (Nat.le_of_ble_eq_true rfl) (Nat.le_of_ble_eq_true rfl) tA_235 (Nat.le_of_ble_eq_true rfl) (Nat.le_of_ble_eq_true rfl) (Nat.le_refl _) (Nat.le_refl _) (s_X6_levelOf (up_s _ _ _) (c := c) hM (by omega) (wp_af ?_))
          refine wp_cS1 (z := mX6_size) (n' := 243) kX6_51 dX6_pushAll_36 (Nat.le_of_ble_eq_true rfl) (Nat.le_of_ble_eq_true rfl) (Nat.le_of_ble_eq_true rfl) (Nat.le_refl _) (Nat.le_refl _) (s_X6_size (wp_af ?_))
          refine wp_aload_n dX6_pushAll_39 rfl ?_
          refine wp_getQ fX6_7 tA_235 rfl hM.f0 (by decide) (Nat.le_of_ble_eq_true rfl) dX6_pushAll_40 ?_
          refine wp_iconst (v := 2) dX6_pushAll_43 (by decide) ?_
          refine wp_iadn (i := 2) rfl tA_236 (Nat.le_of_ble_eq_true rfl) (by rw [lA_236]; omega) (Nat.le_of_ble_eq_true rfl) dX6_pushAll_44 (congrFun (up_s _ _ _) _) ?_
          refine wp_icmp_le (tgt := 52) dX6_pushAll_45 (by decide) (fun h45 => ?_) (fun h45 => ?_)
          · have g45 := Int32.not_lt.mpr h45
            refine wp_iconst (v := 0) dX6_pushAll_52 (by decide) ?_
            refine wp_istore (L' := [some (.ref 235), some (.int st), some (.int (nI k)), some (.int (nI c)), some (.int _)]) dX6_pushAll_53 (by decide) rfl ?_
            refine wp_iload_n dX6_pushAll_55 rfl ?_
            refine wp_iload dX6_pushAll_56 rfl ?_
            refine wp_ifN_eq (a := 0) (tgt := 65) dX6_pushAll_58 (by decide) rfl (by omega) (fun _ => ?_) (fun h => absurd h (by decide))
            refine wp_iconst (v := 0) dX6_pushAll_65 (by decide) ?_
            refine wp_iadd dX6_pushAll_66 ?_
            refine wp_istore_n (L' := [some (.ref 235), some (.int _), some (.int (nI k)), some (.int (nI c)), some (.int _)]) dX6_pushAll_67 (by decide) rfl ?_
            refine wp_aload_n dX6_pushAll_68 rfl ?_
            refine wp_iload_n dX6_pushAll_69 rfl ?_
            refine wp_iconst (v := 5) dX6_pushAll_70 (by decide) ?_
            refine wp_iload dX6_pushAll_71 rfl ?_
            refine wp_ifN_eq (a := 0) (tgt := 80) dX6_pushAll_73 (by decide) rfl (by omega) (fun _ => ?_) (fun h => absurd h (by decide))
            refine wp_iconst (v := 1) dX6_pushAll_80 (by decide) ?_
            refine wp_cV3 (z := mX6_setPaddle) (n' := 243) kX6_54 dX6_pushAll_81 (Nat.le_of_ble_eq_true rfl) (Nat.le_of_ble_eq_true rfl) tA_235 (Nat.le_of_ble_eq_true rfl) (Nat.le_of_ble_eq_true rfl) (Nat.le_refl _) (Nat.le_refl _) (s_X6_setPaddle (up_s _ _ _) (k := k) (j := 5) hM (by omega) (by omega) (wp_af0 ?_))
            refine wp_mem (up_up _ _ _ _) ?_
            refine wp_aload_n dX6_pushAll_84 rfl ?_
            refine wp_getQ fX6_7 tA_235 rfl hM.f0 (by decide) (Nat.le_of_ble_eq_true rfl) dX6_pushAll_85 ?_
            refine wp_bipush (v := 6) dX6_pushAll_88 (by decide) ?_
            refine wp_iload_n dX6_pushAll_90 rfl ?_
            refine wp_iadd dX6_pushAll_91 ?_
            refine wp_iload dX6_pushAll_92 rfl ?_
            refine wp_ifN_eq (a := 0) (tgt := 105) dX6_pushAll_94 (by decide) rfl (by omega) (fun _ => ?_) (fun h => absurd h (by decide))
            refine wp_aload_n dX6_pushAll_105 rfl ?_
            refine wp_iload_n dX6_pushAll_106 rfl ?_
            refine wp_cV1 (z := mX6_push) (n' := 243) kX6_58 dX6_pushAll_107 (Nat.le_of_ble_eq_true rfl) (Nat.le_of_ble_eq_true rfl) tA_235 (Nat.le_of_ble_eq_true rfl) (Nat.le_of_ble_eq_true rfl) (Nat.le_refl _) (Nat.le_refl _) (s_X6_push (up_s _ _ _) (k := k) hM (by omega) (by rw [up_n _ _ (by omega)]; exact hz) (wp_af ?_))
            refine wp_iast (i := (6 + c)) (ix_add rfl rfl) tA_236 (Nat.le_of_ble_eq_true rfl) (by rw [lA_236]; omega) (Nat.le_of_ble_eq_true rfl) dX6_pushAll_110 ?_
            refine wp_mem (u2_up _ _ _ _ _) ?_
            refine wp_iinc (v := nI (k + 1)) (L' := [some (.ref 235), some (.int _), some (.int (nI (k + 1))), some (.int (nI c)), some (.int _)]) dX6_pushAll_111 (by decide) rfl (inc_1 _) rfl ?_
            refine wp_goto (tgt := 4) dX6_pushAll_114 (by decide) ?_
            refine wp_drop [some (.ref 235), some (.int _), some (.int _), none, none] (by repeat constructor) ?_
            refine ih (k + 1) _ _ ?_ ?_ (by omega) (by omega)
            · show _ = pcN sg k + pc1 (paN sg k) k
              rw [← hst, ← hro, pc1, hcel]
              clear hst hro ih hK
              simp [*]
            · show _ = pa1 (paN sg k) k
              rw [← hro, pa1, hcel]
              clear hst hro ih hK
              simp [*, pushS_up, up_eta]
          · have g45 := Int32.not_le.mp h45
            refine wp_iconst (v := 1) dX6_pushAll_48 (by decide) ?_
            refine wp_goto (tgt := 53) dX6_pushAll_49 (by decide) ?_
            refine wp_istore (L' := [some (.ref 235), some (.int st), some (.int (nI k)), some (.int (nI c)), some (.int _)]) dX6_pushAll_53 (by decide) rfl ?_
            refine wp_iload_n dX6_pushAll_55 rfl ?_
            refine wp_iload dX6_pushAll_56 rfl ?_
            refine wp_ifN_eq (a := 1) (tgt := 65) dX6_pushAll_58 (by decide) rfl (by omega) (fun h => absurd h (by decide)) (fun _ => ?_)
            refine wp_iconst (v := 1) dX6_pushAll_61 (by decide) ?_
            refine wp_goto (tgt := 66) dX6_pushAll_62 (by decide) ?_
            refine wp_iadd dX6_pushAll_66 ?_
            refine wp_istore_n (L' := [some (.ref 235), some (.int _), some (.int (nI k)), some (.int (nI c)), some (.int _)]) dX6_pushAll_67 (by decide) rfl ?_
            refine wp_aload_n dX6_pushAll_68 rfl ?_
            refine wp_iload_n dX6_pushAll_69 rfl ?_
            refine wp_iconst (v := 5) dX6_pushAll_70 (by decide) ?_
            refine wp_iload dX6_pushAll_71 rfl ?_
            refine wp_ifN_eq (a := 1) (tgt := 80) dX6_pushAll_73 (by decide) rfl (by omega) (fun h => absurd h (by decide)) (fun _ => ?_)
            refine wp_iconst (v := 0) dX6_pushAll_76 (by decide) ?_
            refine wp_goto (tgt := 81) dX6_pushAll_77 (by decide) ?_
            refine wp_cV3 (z := mX6_setPaddle) (n' := 243) kX6_54 dX6_pushAll_81 (Nat.le_of_ble_eq_true rfl) (Nat.le_of_ble_eq_true rfl) tA_235 (Nat.le_of_ble_eq_true rfl) (Nat.le_of_ble_eq_true rfl) (Nat.le_refl _) (Nat.le_refl _) (s_X6_setPaddle (up_s _ _ _) (k := k) (j := 5) hM (by omega) (by omega) (wp_af0 ?_))
            refine wp_mem (up_up _ _ _ _) ?_
            refine wp_aload_n dX6_pushAll_84 rfl ?_
            refine wp_getQ fX6_7 tA_235 rfl hM.f0 (by decide) (Nat.le_of_ble_eq_true rfl) dX6_pushAll_85 ?_
            refine wp_bipush (v := 6) dX6_pushAll_88 (by decide) ?_
            refine wp_iload_n dX6_pushAll_90 rfl ?_
            refine wp_iadd dX6_pushAll_91 ?_
            refine wp_iload dX6_pushAll_92 rfl ?_
            refine wp_ifN_eq (a := 1) (tgt := 105) dX6_pushAll_94 (by decide) rfl (by omega) (fun h => absurd h (by decide)) (fun _ => ?_)
            refine wp_aload_n dX6_pushAll_97 rfl ?_
            refine wp_iload_n dX6_pushAll_98 rfl ?_
            refine wp_cV1 (z := mX6_levelOf) (n' := 243) kX6_47 dX6_pushAll_99 (Nat.le_of_ble_eq_true rfl) (Nat.le_of_ble_eq_true rfl) tA_235 (Nat.le_of_ble_eq_true rfl) (Nat.le_of_ble_eq_true rfl) (Nat.le_refl _) (Nat.le_refl _) (s_X6_levelOf (up_s _ _ _) (c := c) hM (by omega) (wp_af ?_))
            refine wp_goto (tgt := 110) dX6_pushAll_102 (by decide) ?_
            refine wp_iast (i := (6 + c)) (ix_add rfl rfl) tA_236 (Nat.le_of_ble_eq_true rfl) (by rw [lA_236]; omega) (Nat.le_of_ble_eq_true rfl) dX6_pushAll_110 ?_
            refine wp_mem (u2_up _ _ _ _ _) ?_
            refine wp_iinc (v := nI (k + 1)) (L' := [some (.ref 235), some (.int _), some (.int (nI (k + 1))), some (.int (nI c)), some (.int _)]) dX6_pushAll_111 (by decide) rfl (inc_1 _) rfl ?_
            refine wp_goto (tgt := 4) dX6_pushAll_114 (by decide) ?_
            refine wp_drop [some (.ref 235), some (.int _), some (.int _), none, none] (by repeat constructor) ?_
            refine ih (k + 1) _ _ ?_ ?_ (by omega) (by omega)
            · show _ = pcN sg k + pc1 (paN sg k) k
              rw [← hst, ← hro, pc1, hcel]
              clear hst hro ih hK
              simp [*]
            · show _ = pa1 (paN sg k) k
              rw [← hro, pa1, hcel]
              clear hst hro ih hK
              simp [*, pushS_up, up_eta]
  refine wp_iconst (v := 0) dX6_pushAll_0 (by decide) ?_
  refine wp_istore_n (L' := [some (.ref 235), some (.int _), none, none, none]) dX6_pushAll_1 (by decide) rfl ?_
  refine wp_iconst (v := 0) dX6_pushAll_2 (by decide) ?_
  refine wp_istore_n (L' := [some (.ref 235), some (.int _), some (.int _), none, none]) dX6_pushAll_3 (by decide) rfl ?_
  refine wp_mem (M' := up M 236 sg) (by rw [← hs, up_eta]) ?_
  exact loop (np + 1) 0 _ _ rfl rfl (by omega) (by omega)

/-- a cell's speed behind a step -/
def spdV (sg : Nat → Int32) (c : Nat) : Int32 := bnd (sg (46 + c) + (sg (6 + (if c = 0 then c else c - 1)) + sg (6 + (if c = 39 then c else c + 1)) - 2 * sg (6 + c)) / 4) - bnd (sg (46 + c) + (sg (6 + (if c = 0 then c else c - 1)) + sg (6 + (if c = 39 then c else c + 1)) - 2 * sg (6 + c)) / 4) * sg 1 / 100
def swA (sg : Nat → Int32) (i : Nat) : Nat → Int32 := fun j => if 46 ≤ j ∧ j < 46 + i then spdV sg (j - 46) else sg j
def swB (sg : Nat → Int32) (i : Nat) : Nat → Int32 := fun j => if 6 ≤ j ∧ j < 6 + i then bnd (sg j + spdV sg (j - 6)) else swA sg 40 j
theorem swA_lo {sg : Nat → Int32} {i j : Nat} (h : j < 46 ∨ 46 + i ≤ j) : swA sg i j = sg j := by rw [swA, if_neg (by omega)]
theorem swA_0 (sg : Nat → Int32) : swA sg 0 = sg := by
  funext j
  exact swA_lo (by omega)
theorem swA_s {sg : Nat → Int32} {i : Nat} {v : Int32} (h : v = spdV sg i) : up (swA sg i) (46 + i) v = swA sg (i + 1) := by
  funext j
  by_cases hj : j = 46 + i
  · subst hj
    rw [up_s, swA, if_pos (by omega), h, Nat.add_sub_cancel_left]
  · rw [up_n _ _ hj]
    by_cases h2 : 46 ≤ j ∧ j < 46 + i
    · rw [swA, swA, if_pos h2, if_pos (by omega)]
    · rw [swA, swA, if_neg h2, if_neg (by omega)]
theorem swB_0 (sg : Nat → Int32) : swB sg 0 = swA sg 40 := by
  funext j
  rw [swB, if_neg (by omega)]
theorem swB_s {sg : Nat → Int32} {i : Nat} {v : Int32} (h : v = bnd (sg (6 + i) + spdV sg i)) : up (swB sg i) (6 + i) v = swB sg (i + 1) := by
  funext j
  by_cases hj : j = 6 + i
  · subst hj
    rw [up_s, swB, if_pos (by omega), h, Nat.add_sub_cancel_left]
  · rw [up_n _ _ hj]
    by_cases h2 : 6 ≤ j ∧ j < 6 + i
    · rw [swB, swB, if_pos h2, if_pos (by omega)]
    · rw [swB, swB, if_neg h2, if_neg (by omega)]
set_option maxRecDepth 100000 in
set_option maxHeartbeats 4000000 in
theorem s_X6_swing {γ : Gm} {l : Launch} {M : Mm} {R : Rm} {K : KT} {sg : Nat → Int32} (hs : M 236 = sg) (hM : RM R) (hK : K none 243 (up M 236 (swB sg 40)) R) : CL γ l mX6_swing 1 243 243 [.ref 235] M R K := by
  show WP γ l mX6_swing 1 243 243 0 [some (.ref 235), none, none, none, none] [] 243 M R K
  have lB : ∀ (f c : Nat) (ro : Nat → Int32), ro = swB sg c → 40 - c < f → c ≤ 40 → WP γ l mX6_swing 1 243 243 102 [some (.ref 235), some (.int (nI c)), none, none, none] [] 243 (up M 236 ro) R K := by
    intro f
    induction f with
    | zero => intro c ro _ h; omega
    | succ f ih =>
      intro c ro hro hf hc
      refine wp_iload_n dX6_swing_102 rfl ?_
      refine wp_bipush (v := 40) dX6_swing_103 (by decide) ?_
      refine wp_icN_ge (a := c) (b := 40) (tgt := 141) dX6_swing_105 (by decide) rfl rfl (by omega) (by omega) (fun h105 => ?_) (fun h105 => ?_)
      · exact wp_vret dX6_swing_141 rfl rfl (by rw [hro, show c = 40 by omega]; exact hK)
      · refine wp_aload_n dX6_swing_108 rfl ?_
        refine wp_getQ fX6_7 tA_235 rfl hM.f0 (by decide) (Nat.le_of_ble_eq_true rfl) dX6_swing_109 ?_
        refine wp_bipush (v := 6) dX6_swing_112 (by decide) ?_
        refine wp_iload_n dX6_swing_114 rfl ?_
        refine wp_iadd dX6_swing_115 ?_
        refine wp_aload_n dX6_swing_116 rfl ?_
        refine wp_iload_n dX6_swing_117 rfl ?_
        refine wp_cV1 (z := mX6_levelOf) (n' := 243) kX6_47 dX6_swing_118 (Nat.le_of_ble_eq_true rfl) (Nat.le_of_ble_eq_true rfl) tA_235 (Nat.le_of_ble_eq_true rfl) (Nat.le_of_ble_eq_true rfl) (Nat.le_refl _) (Nat.le_refl _) (s_X6_levelOf (up_s _ _ _) (c := c) hM (by omega) (wp_af ?_))
        refine wp_aload_n dX6_swing_121 rfl ?_
        refine wp_getQ fX6_7 tA_235 rfl hM.f0 (by decide) (Nat.le_of_ble_eq_true rfl) dX6_swing_122 ?_
        refine wp_bipush (v := 46) dX6_swing_125 (by decide) ?_
        refine wp_iload_n dX6_swing_127 rfl ?_
        refine wp_iadd dX6_swing_128 ?_
        refine wp_iadn (i := (46 + c)) (ix_add rfl rfl) tA_236 (Nat.le_of_ble_eq_true rfl) (by rw [lA_236]; omega) (Nat.le_of_ble_eq_true rfl) dX6_swing_129 (congrFun (up_s _ _ _) _) ?_
        refine wp_iadd dX6_swing_130 ?_
        refine wp_cS1 (z := mX6_bounded) (n' := 243) kX6_61 dX6_swing_131 (Nat.le_of_ble_eq_true rfl) (Nat.le_of_ble_eq_true rfl) (Nat.le_of_ble_eq_true rfl) (Nat.le_refl _) (Nat.le_refl _) (s_X6_bounded (wp_af ?_))
        refine wp_iast (i := (6 + c)) (ix_add rfl rfl) tA_236 (Nat.le_of_ble_eq_true rfl) (by rw [lA_236]; omega) (Nat.le_of_ble_eq_true rfl) dX6_swing_134 ?_
        refine wp_mem (u2_up _ _ _ _ _) ?_
        refine wp_iinc (v := nI (c + 1)) (L' := [some (.ref 235), some (.int (nI (c + 1))), none, none, none]) dX6_swing_135 (by decide) rfl (inc_1 _) rfl ?_
        refine wp_goto (tgt := 102) dX6_swing_138 (by decide) ?_
        refine ih (c + 1) _ ?_ (by omega) (by omega)
        rw [← swB_s (i := c) rfl, ← hro]
        congr 2
        rw [hro, swB, if_neg (by omega), swA_lo (by omega), swB, if_neg (by omega), swA, if_pos (by omega), Nat.add_sub_cancel_left]
  have lA : ∀ (f c : Nat) (ro : Nat → Int32), ro = swA sg c → 40 - c < f → c ≤ 40 → WP γ l mX6_swing 1 243 243 2 [some (.ref 235), some (.int (nI c)), none, none, none] [] 243 (up M 236 ro) R K := by
    intro f
    induction f with
    | zero => intro c ro _ h; omega
    | succ f ih =>
      intro c ro hro hf hc
      refine wp_iload_n dX6_swing_2 rfl ?_
      refine wp_bipush (v := 40) dX6_swing_3 (by decide) ?_
      refine wp_icN_ge (a := c) (b := 40) (tgt := 100) dX6_swing_5 (by decide) rfl rfl (by omega) (by omega) (fun h5 => ?_) (fun h5 => ?_)
      · refine wp_iconst (v := 0) dX6_swing_100 (by decide) ?_
        refine wp_istore_n (L' := [some (.ref 235), some (.int _), none, none, none]) dX6_swing_101 (by decide) rfl ?_
        refine wp_drop [some (.ref 235), some (.int _), none, none, none] (by repeat constructor) ?_
        exact lB 41 0 _ (by rw [swB_0, hro, show c = 40 by omega]) (by omega) (by omega)
      · refine wp_aload_n dX6_swing_8 rfl ?_
        refine wp_iload_n dX6_swing_9 rfl ?_
        refine wp_ifN_ne (a := c) (tgt := 17) dX6_swing_10 (by decide) rfl (by omega) (fun h10 => ?_) (fun h10 => ?_)
        · refine wp_iload_n dX6_swing_17 rfl ?_
          refine wp_iconst (v := 1) dX6_swing_18 (by decide) ?_
          refine wp_isub dX6_swing_19 ?_
          refine wp_top (z := nI (c - 1)) (ix_sub (a := c) (b := 1) rfl rfl (by omega)) ?_
          refine wp_cV1 (z := mX6_levelOf) (n' := 243) kX6_47 dX6_swing_20 (Nat.le_of_ble_eq_true rfl) (Nat.le_of_ble_eq_true rfl) tA_235 (Nat.le_of_ble_eq_true rfl) (Nat.le_of_ble_eq_true rfl) (Nat.le_refl _) (Nat.le_refl _) (s_X6_levelOf (up_s _ _ _) (c := (c - 1)) hM (by omega) (wp_af ?_))
          refine wp_topv (fun lf e_lf => ?_)
          refine wp_istore_n (L' := [some (.ref 235), some (.int (nI c)), some (.int lf), none, none]) dX6_swing_23 (by decide) rfl ?_
          refine wp_aload_n dX6_swing_24 rfl ?_
          refine wp_iload_n dX6_swing_25 rfl ?_
          refine wp_bipush (v := 39) dX6_swing_26 (by decide) ?_
          refine wp_icN_ne (a := c) (b := 39) (tgt := 35) dX6_swing_28 (by decide) rfl rfl (by omega) (by omega) (fun h28 => ?_) (fun h28 => ?_)
          · refine wp_iload_n dX6_swing_35 rfl ?_
            refine wp_iconst (v := 1) dX6_swing_36 (by decide) ?_
            refine wp_iadd dX6_swing_37 ?_
            refine wp_top (z := nI (c + 1)) (ix_add rfl rfl) ?_
            refine wp_cV1 (z := mX6_levelOf) (n' := 243) kX6_47 dX6_swing_38 (Nat.le_of_ble_eq_true rfl) (Nat.le_of_ble_eq_true rfl) tA_235 (Nat.le_of_ble_eq_true rfl) (Nat.le_of_ble_eq_true rfl) (Nat.le_refl _) (Nat.le_refl _) (s_X6_levelOf (up_s _ _ _) (c := (c + 1)) hM (by omega) (wp_af ?_))
            refine wp_topv (fun rg e_rg => ?_)
            refine wp_istore_n (L' := [some (.ref 235), some (.int (nI c)), some (.int lf), some (.int rg), none]) dX6_swing_41 (by decide) rfl ?_
            refine wp_aload_n dX6_swing_42 rfl ?_
            refine wp_getQ fX6_7 tA_235 rfl hM.f0 (by decide) (Nat.le_of_ble_eq_true rfl) dX6_swing_43 ?_
            refine wp_bipush (v := 46) dX6_swing_46 (by decide) ?_
            refine wp_iload_n dX6_swing_48 rfl ?_
            refine wp_iadd dX6_swing_49 ?_
            refine wp_iadn (i := (46 + c)) (ix_add rfl rfl) tA_236 (Nat.le_of_ble_eq_true rfl) (by rw [lA_236]; omega) (Nat.le_of_ble_eq_true rfl) dX6_swing_50 (congrFun (up_s _ _ _) _) ?_
            refine wp_iload_n dX6_swing_51 rfl ?_
            refine wp_iload_n dX6_swing_52 rfl ?_
            refine wp_iadd dX6_swing_53 ?_
            refine wp_iconst (v := 2) dX6_swing_54 (by decide) ?_
            refine wp_aload_n dX6_swing_55 rfl ?_
            refine wp_iload_n dX6_swing_56 rfl ?_
            refine wp_cV1 (z := mX6_levelOf) (n' := 243) kX6_47 dX6_swing_57 (Nat.le_of_ble_eq_true rfl) (Nat.le_of_ble_eq_true rfl) tA_235 (Nat.le_of_ble_eq_true rfl) (Nat.le_of_ble_eq_true rfl) (Nat.le_refl _) (Nat.le_refl _) (s_X6_levelOf (up_s _ _ _) (c := c) hM (by omega) (wp_af ?_))
            refine wp_imul dX6_swing_60 ?_
            refine wp_isub dX6_swing_61 ?_
            refine wp_iconst (v := 4) dX6_swing_62 (by decide) ?_
            refine wp_idiv dX6_swing_63 (by decide) ?_
            refine wp_iadd dX6_swing_64 ?_
            refine wp_cS1 (z := mX6_bounded) (n' := 243) kX6_61 dX6_swing_65 (Nat.le_of_ble_eq_true rfl) (Nat.le_of_ble_eq_true rfl) (Nat.le_of_ble_eq_true rfl) (Nat.le_refl _) (Nat.le_refl _) (s_X6_bounded (wp_af ?_))
            refine wp_topv (fun sp e_sp => ?_)
            refine wp_istore (L' := [some (.ref 235), some (.int (nI c)), some (.int lf), some (.int rg), some (.int sp)]) dX6_swing_68 (by decide) rfl ?_
            refine wp_aload_n dX6_swing_70 rfl ?_
            refine wp_getQ fX6_7 tA_235 rfl hM.f0 (by decide) (Nat.le_of_ble_eq_true rfl) dX6_swing_71 ?_
            refine wp_bipush (v := 46) dX6_swing_74 (by decide) ?_
            refine wp_iload_n dX6_swing_76 rfl ?_
            refine wp_iadd dX6_swing_77 ?_
            refine wp_iload dX6_swing_78 rfl ?_
            refine wp_iload dX6_swing_80 rfl ?_
            refine wp_aload_n dX6_swing_82 rfl ?_
            refine wp_getQ fX6_7 tA_235 rfl hM.f0 (by decide) (Nat.le_of_ble_eq_true rfl) dX6_swing_83 ?_
            refine wp_iconst (v := 1) dX6_swing_86 (by decide) ?_
            refine wp_iadn (i := 1) rfl tA_236 (Nat.le_of_ble_eq_true rfl) (by rw [lA_236]; omega) (Nat.le_of_ble_eq_true rfl) dX6_swing_87 (congrFun (up_s _ _ _) _) ?_
            refine wp_imul dX6_swing_88 ?_
            refine wp_bipush (v := 100) dX6_swing_89 (by decide) ?_
            refine wp_idiv dX6_swing_91 (by decide) ?_
            refine wp_isub dX6_swing_92 ?_
            refine wp_iast (i := (46 + c)) (ix_add rfl rfl) tA_236 (Nat.le_of_ble_eq_true rfl) (by rw [lA_236]; omega) (Nat.le_of_ble_eq_true rfl) dX6_swing_93 ?_
            refine wp_mem (u2_up _ _ _ _ _) ?_
            refine wp_iinc (v := nI (c + 1)) (L' := [some (.ref 235), some (.int (nI (c + 1))), some (.int lf), some (.int rg), some (.int sp)]) dX6_swing_94 (by decide) rfl (inc_1 _) rfl ?_
            refine wp_goto (tgt := 2) dX6_swing_97 (by decide) ?_
            refine wp_drop [some (.ref 235), some (.int _), none, none, none] (by repeat constructor) ?_
            refine ih (c + 1) _ ?_ (by omega) (by omega)
            rw [← swA_s (i := c) rfl, ← hro]
            congr 1
            rw [e_sp, e_lf, e_rg, hro, spdV]
            simp (disch := omega) only [swA_lo, if_pos, if_neg]
          · refine wp_iload_n dX6_swing_31 rfl ?_
            refine wp_goto (tgt := 38) dX6_swing_32 (by decide) ?_
            refine wp_cV1 (z := mX6_levelOf) (n' := 243) kX6_47 dX6_swing_38 (Nat.le_of_ble_eq_true rfl) (Nat.le_of_ble_eq_true rfl) tA_235 (Nat.le_of_ble_eq_true rfl) (Nat.le_of_ble_eq_true rfl) (Nat.le_refl _) (Nat.le_refl _) (s_X6_levelOf (up_s _ _ _) (c := c) hM (by omega) (wp_af ?_))
            refine wp_topv (fun rg e_rg => ?_)
            refine wp_istore_n (L' := [some (.ref 235), some (.int (nI c)), some (.int lf), some (.int rg), none]) dX6_swing_41 (by decide) rfl ?_
            refine wp_aload_n dX6_swing_42 rfl ?_
            refine wp_getQ fX6_7 tA_235 rfl hM.f0 (by decide) (Nat.le_of_ble_eq_true rfl) dX6_swing_43 ?_
            refine wp_bipush (v := 46) dX6_swing_46 (by decide) ?_
            refine wp_iload_n dX6_swing_48 rfl ?_
            refine wp_iadd dX6_swing_49 ?_
            refine wp_iadn (i := (46 + c)) (ix_add rfl rfl) tA_236 (Nat.le_of_ble_eq_true rfl) (by rw [lA_236]; omega) (Nat.le_of_ble_eq_true rfl) dX6_swing_50 (congrFun (up_s _ _ _) _) ?_
            refine wp_iload_n dX6_swing_51 rfl ?_
            refine wp_iload_n dX6_swing_52 rfl ?_
            refine wp_iadd dX6_swing_53 ?_
            refine wp_iconst (v := 2) dX6_swing_54 (by decide) ?_
            refine wp_aload_n dX6_swing_55 rfl ?_
            refine wp_iload_n dX6_swing_56 rfl ?_
            refine wp_cV1 (z := mX6_levelOf) (n' := 243) kX6_47 dX6_swing_57 (Nat.le_of_ble_eq_true rfl) (Nat.le_of_ble_eq_true rfl) tA_235 (Nat.le_of_ble_eq_true rfl) (Nat.le_of_ble_eq_true rfl) (Nat.le_refl _) (Nat.le_refl _) (s_X6_levelOf (up_s _ _ _) (c := c) hM (by omega) (wp_af ?_))
            refine wp_imul dX6_swing_60 ?_
            refine wp_isub dX6_swing_61 ?_
            refine wp_iconst (v := 4) dX6_swing_62 (by decide) ?_
            refine wp_idiv dX6_swing_63 (by decide) ?_
            refine wp_iadd dX6_swing_64 ?_
            refine wp_cS1 (z := mX6_bounded) (n' := 243) kX6_61 dX6_swing_65 (Nat.le_of_ble_eq_true rfl) (Nat.le_of_ble_eq_true rfl) (Nat.le_of_ble_eq_true rfl) (Nat.le_refl _) (Nat.le_refl _) (s_X6_bounded (wp_af ?_))
            refine wp_topv (fun sp e_sp => ?_)
            refine wp_istore (L' := [some (.ref 235), some (.int (nI c)), some (.int lf), some (.int rg), some (.int sp)]) dX6_swing_68 (by decide) rfl ?_
            refine wp_aload_n dX6_swing_70 rfl ?_
            refine wp_getQ fX6_7 tA_235 rfl hM.f0 (by decide) (Nat.le_of_ble_eq_true rfl) dX6_swing_71 ?_
            refine wp_bipush (v := 46) dX6_swing_74 (by decide) ?_
            refine wp_iload_n dX6_swing_76 rfl ?_
            refine wp_iadd dX6_swing_77 ?_
            refine wp_iload dX6_swing_78 rfl ?_
            refine wp_iload dX6_swing_80 rfl ?_
            refine wp_aload_n dX6_swing_82 rfl ?_
            refine wp_getQ fX6_7 tA_235 rfl hM.f0 (by decide) (Nat.le_of_ble_eq_true rfl) dX6_swing_83 ?_
            refine wp_iconst (v := 1) dX6_swing_86 (by decide) ?_
            refine wp_iadn (i := 1) rfl tA_236 (Nat.le_of_ble_eq_true rfl) (by rw [lA_236]; omega) (Nat.le_of_ble_eq_true rfl) dX6_swing_87 (congrFun (up_s _ _ _) _) ?_
            refine wp_imul dX6_swing_88 ?_
            refine wp_bipush (v := 100) dX6_swing_89 (by decide) ?_
            refine wp_idiv dX6_swing_91 (by decide) ?_
            refine wp_isub dX6_swing_92 ?_
            refine wp_iast (i := (46 + c)) (ix_add rfl rfl) tA_236 (Nat.le_of_ble_eq_true rfl) (by rw [lA_236]; omega) (Nat.le_of_ble_eq_true rfl) dX6_swing_93 ?_
            refine wp_mem (u2_up _ _ _ _ _) ?_
            refine wp_iinc (v := nI (c + 1)) (L' := [some (.ref 235), some (.int (nI (c + 1))), some (.int lf), some (.int rg), some (.int sp)]) dX6_swing_94 (by decide) rfl (inc_1 _) rfl ?_
            refine wp_goto (tgt := 2) dX6_swing_97 (by decide) ?_
            refine wp_drop [some (.ref 235), some (.int _), none, none, none] (by repeat constructor) ?_
            refine ih (c + 1) _ ?_ (by omega) (by omega)
            rw [← swA_s (i := c) rfl, ← hro]
            congr 1
            rw [e_sp, e_lf, e_rg, hro, spdV]
            simp (disch := omega) only [swA_lo, if_pos, if_neg]
        · refine wp_iload_n dX6_swing_13 rfl ?_
          refine wp_goto (tgt := 20) dX6_swing_14 (by decide) ?_
          refine wp_cV1 (z := mX6_levelOf) (n' := 243) kX6_47 dX6_swing_20 (Nat.le_of_ble_eq_true rfl) (Nat.le_of_ble_eq_true rfl) tA_235 (Nat.le_of_ble_eq_true rfl) (Nat.le_of_ble_eq_true rfl) (Nat.le_refl _) (Nat.le_refl _) (s_X6_levelOf (up_s _ _ _) (c := c) hM (by omega) (wp_af ?_))
          refine wp_topv (fun lf e_lf => ?_)
          refine wp_istore_n (L' := [some (.ref 235), some (.int (nI c)), some (.int lf), none, none]) dX6_swing_23 (by decide) rfl ?_
          refine wp_aload_n dX6_swing_24 rfl ?_
          refine wp_iload_n dX6_swing_25 rfl ?_
          refine wp_bipush (v := 39) dX6_swing_26 (by decide) ?_
          refine wp_icN_ne (a := c) (b := 39) (tgt := 35) dX6_swing_28 (by decide) rfl rfl (by omega) (by omega) (fun h28 => ?_) (fun h28 => ?_)
          · refine wp_iload_n dX6_swing_35 rfl ?_
            refine wp_iconst (v := 1) dX6_swing_36 (by decide) ?_
            refine wp_iadd dX6_swing_37 ?_
            refine wp_top (z := nI (c + 1)) (ix_add rfl rfl) ?_
            refine wp_cV1 (z := mX6_levelOf) (n' := 243) kX6_47 dX6_swing_38 (Nat.le_of_ble_eq_true rfl) (Nat.le_of_ble_eq_true rfl) tA_235 (Nat.le_of_ble_eq_true rfl) (Nat.le_of_ble_eq_true rfl) (Nat.le_refl _) (Nat.le_refl _) (s_X6_levelOf (up_s _ _ _) (c := (c + 1)) hM (by omega) (wp_af ?_))
            refine wp_topv (fun rg e_rg => ?_)
            refine wp_istore_n (L' := [some (.ref 235), some (.int (nI c)), some (.int lf), some (.int rg), none]) dX6_swing_41 (by decide) rfl ?_
            refine wp_aload_n dX6_swing_42 rfl ?_
            refine wp_getQ fX6_7 tA_235 rfl hM.f0 (by decide) (Nat.le_of_ble_eq_true rfl) dX6_swing_43 ?_
            refine wp_bipush (v := 46) dX6_swing_46 (by decide) ?_
            refine wp_iload_n dX6_swing_48 rfl ?_
            refine wp_iadd dX6_swing_49 ?_
            refine wp_iadn (i := (46 + c)) (ix_add rfl rfl) tA_236 (Nat.le_of_ble_eq_true rfl) (by rw [lA_236]; omega) (Nat.le_of_ble_eq_true rfl) dX6_swing_50 (congrFun (up_s _ _ _) _) ?_
            refine wp_iload_n dX6_swing_51 rfl ?_
            refine wp_iload_n dX6_swing_52 rfl ?_
            refine wp_iadd dX6_swing_53 ?_
            refine wp_iconst (v := 2) dX6_swing_54 (by decide) ?_
            refine wp_aload_n dX6_swing_55 rfl ?_
            refine wp_iload_n dX6_swing_56 rfl ?_
            refine wp_cV1 (z := mX6_levelOf) (n' := 243) kX6_47 dX6_swing_57 (Nat.le_of_ble_eq_true rfl) (Nat.le_of_ble_eq_true rfl) tA_235 (Nat.le_of_ble_eq_true rfl) (Nat.le_of_ble_eq_true rfl) (Nat.le_refl _) (Nat.le_refl _) (s_X6_levelOf (up_s _ _ _) (c := c) hM (by omega) (wp_af ?_))
            refine wp_imul dX6_swing_60 ?_
            refine wp_isub dX6_swing_61 ?_
            refine wp_iconst (v := 4) dX6_swing_62 (by decide) ?_
            refine wp_idiv dX6_swing_63 (by decide) ?_
            refine wp_iadd dX6_swing_64 ?_
            refine wp_cS1 (z := mX6_bounded) (n' := 243) kX6_61 dX6_swing_65 (Nat.le_of_ble_eq_true rfl) (Nat.le_of_ble_eq_true rfl) (Nat.le_of_ble_eq_true rfl) (Nat.le_refl _) (Nat.le_refl _) (s_X6_bounded (wp_af ?_))
            refine wp_topv (fun sp e_sp => ?_)
            refine wp_istore (L' := [some (.ref 235), some (.int (nI c)), some (.int lf), some (.int rg), some (.int sp)]) dX6_swing_68 (by decide) rfl ?_
            refine wp_aload_n dX6_swing_70 rfl ?_
            refine wp_getQ fX6_7 tA_235 rfl hM.f0 (by decide) (Nat.le_of_ble_eq_true rfl) dX6_swing_71 ?_
            refine wp_bipush (v := 46) dX6_swing_74 (by decide) ?_
            refine wp_iload_n dX6_swing_76 rfl ?_
            refine wp_iadd dX6_swing_77 ?_
            refine wp_iload dX6_swing_78 rfl ?_
            refine wp_iload dX6_swing_80 rfl ?_
            refine wp_aload_n dX6_swing_82 rfl ?_
            refine wp_getQ fX6_7 tA_235 rfl hM.f0 (by decide) (Nat.le_of_ble_eq_true rfl) dX6_swing_83 ?_
            refine wp_iconst (v := 1) dX6_swing_86 (by decide) ?_
            refine wp_iadn (i := 1) rfl tA_236 (Nat.le_of_ble_eq_true rfl) (by rw [lA_236]; omega) (Nat.le_of_ble_eq_true rfl) dX6_swing_87 (congrFun (up_s _ _ _) _) ?_
            refine wp_imul dX6_swing_88 ?_
            refine wp_bipush (v := 100) dX6_swing_89 (by decide) ?_
            refine wp_idiv dX6_swing_91 (by decide) ?_
            refine wp_isub dX6_swing_92 ?_
            refine wp_iast (i := (46 + c)) (ix_add rfl rfl) tA_236 (Nat.le_of_ble_eq_true rfl) (by rw [lA_236]; omega) (Nat.le_of_ble_eq_true rfl) dX6_swing_93 ?_
            refine wp_mem (u2_up _ _ _ _ _) ?_
            refine wp_iinc (v := nI (c + 1)) (L' := [some (.ref 235), some (.int (nI (c + 1))), some (.int lf), some (.int rg), some (.int sp)]) dX6_swing_94 (by decide) rfl (inc_1 _) rfl ?_
            refine wp_goto (tgt := 2) dX6_swing_97 (by decide) ?_
            refine wp_drop [some (.ref 235), some (.int _), none, none, none] (by repeat constructor) ?_
            refine ih (c + 1) _ ?_ (by omega) (by omega)
            rw [← swA_s (i := c) rfl, ← hro]
            congr 1
            rw [e_sp, e_lf, e_rg, hro, spdV]
            simp (disch := omega) only [swA_lo, if_pos, if_neg]
          · refine wp_iload_n dX6_swing_31 rfl ?_
            refine wp_goto (tgt := 38) dX6_swing_32 (by decide) ?_
            refine wp_cV1 (z := mX6_levelOf) (n' := 243) kX6_47 dX6_swing_38 (Nat.le_of_ble_eq_true rfl) (Nat.le_of_ble_eq_true rfl) tA_235 (Nat.le_of_ble_eq_true rfl) (Nat.le_of_ble_eq_true rfl) (Nat.le_refl _) (Nat.le_refl _) (s_X6_levelOf (up_s _ _ _) (c := c) hM (by omega) (wp_af ?_))
            refine wp_topv (fun rg e_rg => ?_)
            refine wp_istore_n (L' := [some (.ref 235), some (.int (nI c)), some (.int lf), some (.int rg), none]) dX6_swing_41 (by decide) rfl ?_
            refine wp_aload_n dX6_swing_42 rfl ?_
            refine wp_getQ fX6_7 tA_235 rfl hM.f0 (by decide) (Nat.le_of_ble_eq_true rfl) dX6_swing_43 ?_
            refine wp_bipush (v := 46) dX6_swing_46 (by decide) ?_
            refine wp_iload_n dX6_swing_48 rfl ?_
            refine wp_iadd dX6_swing_49 ?_
            refine wp_iadn (i := (46 + c)) (ix_add rfl rfl) tA_236 (Nat.le_of_ble_eq_true rfl) (by rw [lA_236]; omega) (Nat.le_of_ble_eq_true rfl) dX6_swing_50 (congrFun (up_s _ _ _) _) ?_
            refine wp_iload_n dX6_swing_51 rfl ?_
            refine wp_iload_n dX6_swing_52 rfl ?_
            refine wp_iadd dX6_swing_53 ?_
            refine wp_iconst (v := 2) dX6_swing_54 (by decide) ?_
            refine wp_aload_n dX6_swing_55 rfl ?_
            refine wp_iload_n dX6_swing_56 rfl ?_
            refine wp_cV1 (z := mX6_levelOf) (n' := 243) kX6_47 dX6_swing_57 (Nat.le_of_ble_eq_true rfl) (Nat.le_of_ble_eq_true rfl) tA_235 (Nat.le_of_ble_eq_true rfl) (Nat.le_of_ble_eq_true rfl) (Nat.le_refl _) (Nat.le_refl _) (s_X6_levelOf (up_s _ _ _) (c := c) hM (by omega) (wp_af ?_))
            refine wp_imul dX6_swing_60 ?_
            refine wp_isub dX6_swing_61 ?_
            refine wp_iconst (v := 4) dX6_swing_62 (by decide) ?_
            refine wp_idiv dX6_swing_63 (by decide) ?_
            refine wp_iadd dX6_swing_64 ?_
            refine wp_cS1 (z := mX6_bounded) (n' := 243) kX6_61 dX6_swing_65 (Nat.le_of_ble_eq_true rfl) (Nat.le_of_ble_eq_true rfl) (Nat.le_of_ble_eq_true rfl) (Nat.le_refl _) (Nat.le_refl _) (s_X6_bounded (wp_af ?_))
            refine wp_topv (fun sp e_sp => ?_)
            refine wp_istore (L' := [some (.ref 235), some (.int (nI c)), some (.int lf), some (.int rg), some (.int sp)]) dX6_swing_68 (by decide) rfl ?_
            refine wp_aload_n dX6_swing_70 rfl ?_
            refine wp_getQ fX6_7 tA_235 rfl hM.f0 (by decide) (Nat.le_of_ble_eq_true rfl) dX6_swing_71 ?_
            refine wp_bipush (v := 46) dX6_swing_74 (by decide) ?_
            refine wp_iload_n dX6_swing_76 rfl ?_
            refine wp_iadd dX6_swing_77 ?_
            refine wp_iload dX6_swing_78 rfl ?_
            refine wp_iload dX6_swing_80 rfl ?_
            refine wp_aload_n dX6_swing_82 rfl ?_
            refine wp_getQ fX6_7 tA_235 rfl hM.f0 (by decide) (Nat.le_of_ble_eq_true rfl) dX6_swing_83 ?_
            refine wp_iconst (v := 1) dX6_swing_86 (by decide) ?_
            refine wp_iadn (i := 1) rfl tA_236 (Nat.le_of_ble_eq_true rfl) (by rw [lA_236]; omega) (Nat.le_of_ble_eq_true rfl) dX6_swing_87 (congrFun (up_s _ _ _) _) ?_
            refine wp_imul dX6_swing_88 ?_
            refine wp_bipush (v := 100) dX6_swing_89 (by decide) ?_
            refine wp_idiv dX6_swing_91 (by decide) ?_
            refine wp_isub dX6_swing_92 ?_
            refine wp_iast (i := (46 + c)) (ix_add rfl rfl) tA_236 (Nat.le_of_ble_eq_true rfl) (by rw [lA_236]; omega) (Nat.le_of_ble_eq_true rfl) dX6_swing_93 ?_
            refine wp_mem (u2_up _ _ _ _ _) ?_
            refine wp_iinc (v := nI (c + 1)) (L' := [some (.ref 235), some (.int (nI (c + 1))), some (.int lf), some (.int rg), some (.int sp)]) dX6_swing_94 (by decide) rfl (inc_1 _) rfl ?_
            refine wp_goto (tgt := 2) dX6_swing_97 (by decide) ?_
            refine wp_drop [some (.ref 235), some (.int _), none, none, none] (by repeat constructor) ?_
            refine ih (c + 1) _ ?_ (by omega) (by omega)
            rw [← swA_s (i := c) rfl, ← hro]
            congr 1
            rw [e_sp, e_lf, e_rg, hro, spdV]
            simp (disch := omega) only [swA_lo, if_pos, if_neg]
  refine wp_iconst (v := 0) dX6_swing_0 (by decide) ?_
  refine wp_istore_n (L' := [some (.ref 235), some (.int _), none, none, none]) dX6_swing_1 (by decide) rfl ?_
  refine wp_mem (M' := up M 236 sg) (by rw [← hs, up_eta]) ?_
  exact lA 41 0 _ (swA_0 sg).symm (by omega) (by omega)

def bcV (sg : Nat → Int32) (c j : Nat) : Int32 := sg j - sg j * (sg 0 * nI (c - 35)) / 400
def bcN (sg : Nat → Int32) (i : Nat) : Nat → Int32 := fun j => if 42 ≤ j ∧ j < 6 + i then bcV sg (j - 6) j else if 82 ≤ j ∧ j < 46 + i then bcV sg (j - 46) j else sg j
theorem bcN_lo {sg : Nat → Int32} {i j : Nat} (h1 : j < 42 ∨ 6 + i ≤ j) (h2 : j < 82 ∨ 46 + i ≤ j) : bcN sg i j = sg j := by rw [bcN, if_neg (by omega), if_neg (by omega)]
theorem bcN_0 (sg : Nat → Int32) : bcN sg 36 = sg := by
  funext j
  exact bcN_lo (by omega) (by omega)
theorem bcN_s {sg : Nat → Int32} {i : Nat} {v w : Int32} (h36 : 36 ≤ i) (h40 : i < 40) (hv : v = bcV sg i (6 + i)) (hw : w = bcV sg i (46 + i)) : up (up (bcN sg i) (6 + i) v) (46 + i) w = bcN sg (i + 1) := by
  funext j
  by_cases hj : j = 46 + i
  · subst hj
    rw [up_s, bcN, if_neg (by omega), if_pos (by omega), hw, Nat.add_sub_cancel_left]
  · rw [up_n _ _ hj]
    by_cases hj2 : j = 6 + i
    · subst hj2
      rw [up_s, bcN, if_pos (by omega), hv, Nat.add_sub_cancel_left]
    · rw [up_n _ _ hj2]
      by_cases h2 : 42 ≤ j ∧ j < 6 + i
      · rw [bcN, bcN, if_pos h2, if_pos (by omega)]
      · rw [bcN, bcN, if_neg h2, if_neg (c := 42 ≤ j ∧ j < 6 + (i + 1)) (by omega)]
        by_cases h3 : 82 ≤ j ∧ j < 46 + i
        · rw [if_pos h3, if_pos (by omega)]
        · rw [if_neg h3, if_neg (by omega)]
set_option maxRecDepth 100000 in
set_option maxHeartbeats 4000000 in
theorem s_X6_beach {γ : Gm} {l : Launch} {M : Mm} {R : Rm} {K : KT} {sg : Nat → Int32} (hs : M 236 = sg) (hM : RM R) (hK : K none 243 (up M 236 (bcN sg 40)) R) : CL γ l mX6_beach 1 243 243 [.ref 235] M R K := by
  show WP γ l mX6_beach 1 243 243 0 [some (.ref 235), none, none] [] 243 M R K
  have loop : ∀ (f c : Nat) (ro : Nat → Int32), ro = bcN sg c → 40 - c < f → 36 ≤ c → c ≤ 40 → WP γ l mX6_beach 1 243 243 3 [some (.ref 235), some (.int (nI c)), none] [] 243 (up M 236 ro) R K := by
    intro f
    induction f with
    | zero => intro c ro _ h; omega
    | succ f ih =>
      intro c ro hro hf h36 hc
      refine wp_iload_n dX6_beach_3 rfl ?_
      refine wp_bipush (v := 40) dX6_beach_4 (by decide) ?_
      refine wp_icN_ge (a := c) (b := 40) (tgt := 77) dX6_beach_6 (by decide) rfl rfl (by omega) (by omega) (fun h6 => ?_) (fun h6 => ?_)
      · exact wp_vret dX6_beach_77 rfl rfl (by rw [hro, show c = 40 by omega]; exact hK)
      · refine wp_aload_n dX6_beach_9 rfl ?_
        refine wp_getQ fX6_7 tA_235 rfl hM.f0 (by decide) (Nat.le_of_ble_eq_true rfl) dX6_beach_10 ?_
        refine wp_iconst (v := 0) dX6_beach_13 (by decide) ?_
        refine wp_iadn (i := 0) rfl tA_236 (Nat.le_of_ble_eq_true rfl) (by rw [lA_236]; omega) (Nat.le_of_ble_eq_true rfl) dX6_beach_14 (congrFun (up_s _ _ _) _) ?_
        refine wp_iload_n dX6_beach_15 rfl ?_
        refine wp_bipush (v := 35) dX6_beach_16 (by decide) ?_
        refine wp_isub dX6_beach_18 ?_
        refine wp_top (ix_sub (a := c) (b := 35) rfl rfl (by omega)) ?_
        refine wp_imul dX6_beach_19 ?_
        refine wp_topv (fun by_ e_by_ => ?_)
        refine wp_istore_n (L' := [some (.ref 235), some (.int (nI c)), some (.int by_)]) dX6_beach_20 (by decide) rfl ?_
        refine wp_aload_n dX6_beach_21 rfl ?_
        refine wp_getQ fX6_7 tA_235 rfl hM.f0 (by decide) (Nat.le_of_ble_eq_true rfl) dX6_beach_22 ?_
        refine wp_bipush (v := 6) dX6_beach_25 (by decide) ?_
        refine wp_iload_n dX6_beach_27 rfl ?_
        refine wp_iadd dX6_beach_28 ?_
        refine wp_dup2 dX6_beach_29 rfl rfl ?_
        refine wp_iadn (i := (6 + c)) (ix_add rfl rfl) tA_236 (Nat.le_of_ble_eq_true rfl) (by rw [lA_236]; omega) (Nat.le_of_ble_eq_true rfl) dX6_beach_30 (congrFun (up_s _ _ _) _) ?_
        refine wp_aload_n dX6_beach_31 rfl ?_
        refine wp_iload_n dX6_beach_32 rfl ?_
        refine wp_cV1 (z := mX6_levelOf) (n' := 243) kX6_47 dX6_beach_33 (Nat.le_of_ble_eq_true rfl) (Nat.le_of_ble_eq_true rfl) tA_235 (Nat.le_of_ble_eq_true rfl) (Nat.le_of_ble_eq_true rfl) (Nat.le_refl _) (Nat.le_refl _) (s_X6_levelOf (up_s _ _ _) (c := c) hM (by omega) (wp_af ?_))
        refine wp_iload_n dX6_beach_36 rfl ?_
        refine wp_imul dX6_beach_37 ?_
        refine wp_sipush (v := 400) dX6_beach_38 (by decide) ?_
        refine wp_idiv dX6_beach_41 (by decide) ?_
        refine wp_isub dX6_beach_42 ?_
        refine wp_iast (i := (6 + c)) (ix_add rfl rfl) tA_236 (Nat.le_of_ble_eq_true rfl) (by rw [lA_236]; omega) (Nat.le_of_ble_eq_true rfl) dX6_beach_43 ?_
        refine wp_mem (u2_up _ _ _ _ _) ?_
        refine wp_aload_n dX6_beach_44 rfl ?_
        refine wp_getQ fX6_7 tA_235 rfl hM.f0 (by decide) (Nat.le_of_ble_eq_true rfl) dX6_beach_45 ?_
        refine wp_bipush (v := 46) dX6_beach_48 (by decide) ?_
        refine wp_iload_n dX6_beach_50 rfl ?_
        refine wp_iadd dX6_beach_51 ?_
        refine wp_dup2 dX6_beach_52 rfl rfl ?_
        refine wp_iadn (i := (46 + c)) (ix_add rfl rfl) tA_236 (Nat.le_of_ble_eq_true rfl) (by rw [lA_236]; omega) (Nat.le_of_ble_eq_true rfl) dX6_beach_53 (congrFun (up_s _ _ _) _) ?_
        refine wp_aload_n dX6_beach_54 rfl ?_
        refine wp_getQ fX6_7 tA_235 rfl hM.f0 (by decide) (Nat.le_of_ble_eq_true rfl) dX6_beach_55 ?_
        refine wp_bipush (v := 46) dX6_beach_58 (by decide) ?_
        refine wp_iload_n dX6_beach_60 rfl ?_
        refine wp_iadd dX6_beach_61 ?_
        refine wp_iadn (i := (46 + c)) (ix_add rfl rfl) tA_236 (Nat.le_of_ble_eq_true rfl) (by rw [lA_236]; omega) (Nat.le_of_ble_eq_true rfl) dX6_beach_62 (congrFun (up_s _ _ _) _) ?_
        refine wp_iload_n dX6_beach_63 rfl ?_
        refine wp_imul dX6_beach_64 ?_
        refine wp_sipush (v := 400) dX6_beach_65 (by decide) ?_
        refine wp_idiv dX6_beach_68 (by decide) ?_
        refine wp_isub dX6_beach_69 ?_
        refine wp_iast (i := (46 + c)) (ix_add rfl rfl) tA_236 (Nat.le_of_ble_eq_true rfl) (by rw [lA_236]; omega) (Nat.le_of_ble_eq_true rfl) dX6_beach_70 ?_
        refine wp_mem (u2_up _ _ _ _ _) ?_
        refine wp_iinc (v := nI (c + 1)) (L' := [some (.ref 235), some (.int (nI (c + 1))), some (.int by_)]) dX6_beach_71 (by decide) rfl (inc_1 _) rfl ?_
        refine wp_goto (tgt := 3) dX6_beach_74 (by decide) ?_
        refine wp_drop [some (.ref 235), some (.int _), none] (by repeat constructor) ?_
        refine ih (c + 1) _ ?_ (by omega) (by omega) (by omega)
        rw [← bcN_s (i := c) (by omega) (by omega) rfl rfl, ← hro]
        congr 1
        · congr 1
          rw [e_by_, hro, bcV]
          simp (disch := omega) only [bcN_lo]
        · rw [up_n _ _ (by omega), e_by_, hro, bcV]
          simp (disch := omega) only [bcN_lo]
  refine wp_bipush (v := 36) dX6_beach_0 (by decide) ?_
  refine wp_istore_n (L' := [some (.ref 235), some (.int _), none]) dX6_beach_2 (by decide) rfl ?_
  refine wp_mem (M' := up M 236 sg) (by rw [← hs, up_eta]) ?_
  exact loop 41 36 _ (bcN_0 sg).symm (by omega) (by omega) (by omega)

/-- what a gauge notes; n of them known -/
def ntV (sg : Nat → Int32) (g : Nat) : Int32 := sg (6 + (sg (122 + 62 * g)).toNatClampNeg)
def ntS (sg : Nat → Int32) (g i : Nat) : Nat → Int32 := fun j => if 124 + 62 * g ≤ j ∧ j < 123 + 62 * g + i then sg (j + 1) else sg j
def nt1 (sg : Nat → Int32) (g : Nat) : Nat → Int32 := if sg (122 + 62 * g + 1) = 60 then up (up (up (ntS sg g 60) (122 + 62 * g + 1) 59) (122 + 62 * g + 2 + 59) (ntV sg g)) (122 + 62 * g + 1) 60
  else up (up sg (122 + 62 * g + 2 + (sg (122 + 62 * g + 1)).toNatClampNeg) (ntV sg g)) (122 + 62 * g + 1) (sg (122 + 62 * g + 1) + 1)
def ntN (sg : Nat → Int32) : Nat → Nat → Int32
  | 0 => sg
  | g + 1 => nt1 (ntN sg g) g
/-- what the rows of the gauges must be for a step -/
def GgS (sg : Nat → Int32) (ng : Nat) : Prop := ∀ g, g < ng → (∃ c, c < 40 ∧ sg (122 + 62 * g) = nI c) ∧ ∃ m, m ≤ 60 ∧ sg (122 + 62 * g + 1) = nI m
theorem ntS_0 (sg : Nat → Int32) (g : Nat) : ntS sg g 1 = sg := by
  funext j
  rw [ntS, if_neg (by omega)]
theorem ntS_s {sg : Nat → Int32} {g i : Nat} (h1 : 1 ≤ i) : up (ntS sg g i) (123 + 62 * g + i) (ntS sg g i (124 + 62 * g + i)) = ntS sg g (i + 1) := by
  funext j
  by_cases hj : j = 123 + 62 * g + i
  · subst hj
    rw [up_s, ntS, ntS, if_neg (by omega), if_pos (by omega)]
    congr 1
    omega
  · rw [up_n _ _ hj]
    by_cases h2 : 124 + 62 * g ≤ j ∧ j < 123 + 62 * g + i
    · rw [ntS, ntS, if_pos h2, if_pos (by omega)]
    · rw [ntS, ntS, if_neg h2, if_neg (by omega)]
theorem nt1_same {sg : Nat → Int32} {g m j : Nat} (hm : m ≤ 60) (hn : sg (122 + 62 * g + 1) = nI m) (hj : j ≤ 122 + 62 * g ∨ 184 + 62 * g ≤ j) : nt1 sg g j = sg j := by
  unfold nt1
  rw [hn, nI_clamp (by omega)]
  split
  · rw [up_n _ _ (by omega), up_n _ _ (by omega), up_n _ _ (by omega), ntS, if_neg (by omega)]
  · rename_i h
    have : m ≠ 60 := fun q => h (by rw [q]; rfl)
    rw [up_n _ _ (by omega), up_n _ _ (by omega)]
theorem ntN_same {sg : Nat → Int32} {ng : Nat} (h : GgS sg ng) : ∀ {g : Nat}, g ≤ ng → ∀ {j : Nat}, (j < 122 ∨ 122 + 62 * g ≤ j) → ntN sg g j = sg j
  | 0, _, _, _ => rfl
  | g + 1, hg, j, hj => by
    obtain ⟨-, m, hm, hn⟩ := h g (by omega)
    have e1 := ntN_same h (g := g) (by omega) (j := 122 + 62 * g + 1) (by omega)
    show nt1 (ntN sg g) g j = _
    rw [nt1_same hm (e1.trans hn) (by omega)]
    exact ntN_same h (by omega) (by omega)
