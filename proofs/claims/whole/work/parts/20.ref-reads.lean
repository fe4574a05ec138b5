/-! THE REFERENCE: what there is -/
theorem crest_1 {sg : Nat → Int32} {c : Nat} (h : ¬ crest sg c = 0) : crest sg c = 1 := by
  unfold crest at h ⊢
  split
  · rfl
  · rename_i q
    rw [if_neg q] at h
    exact absurd rfl h
theorem trough_1 {sg : Nat → Int32} {c : Nat} (h : ¬ trough sg c = 0) : trough sg c = 1 := by
  unfold trough at h ⊢
  split
  · rfl
  · rename_i q
    rw [if_neg q] at h
    exact absurd rfl h
def cellR (sg : Nat → Int32) (k : Nat) (w : Int32) : Int32 := if w = 0 then sg (6 + k) + 10000 else if w = 1 then sg (46 + k) + 10000 else if w = 2 then crest sg k else if w = 3 then trough sg k else -2
set_option maxRecDepth 100000 in
set_option maxHeartbeats 4000000 in
theorem s_X6_cell {γ : Gm} {l : Launch} {M : Mm} {R : Rm} {K : KT} {c w : Int32} {sg : Nat → Int32} (hs : M 236 = sg) (hM : RM R) (hE : ¬ (0 ≤ c ∧ c ≤ 39) → K (some (.int (-1))) 243 M R) (hK : ∀ k, k < 40 → c = nI k → K (some (.int (cellR sg k w))) 243 M R) : CL γ l mX6_cell 2 243 243 [.ref 235, .int c, .int w] M R K := by
  show WP γ l mX6_cell 2 243 243 0 [some (.ref 235), some (.int c), some (.int w)] [] 243 M R K
  refine wp_iload_n dX6_cell_0 rfl ?_
  refine wp_cS1 (z := mX6_isCell) (n' := 243) kX6_102 dX6_cell_1 (Nat.le_of_ble_eq_true rfl) (Nat.le_of_ble_eq_true rfl) (Nat.le_of_ble_eq_true rfl) (Nat.le_refl _) (Nat.le_refl _) (s_X6_isCell (wp_af ?_))
  refine wp_bq_ne (tgt := 9) dX6_cell_4 (by decide) (fun h4 => ?_) (fun h4 => ?_)
  · obtain ⟨k, hk, e_c⟩ := cell_in h4
    subst e_c
    replace hK := hK k hk rfl
    unfold cellR at hK
    refine wp_iload_n dX6_cell_9 rfl ?_
    refine wp_tswitch [(0, 40), (1, 50), (2, 64), (3, 78)] 92 dX6_cell_10 (by decide) (by decide) (by decide +kernel) ?_
    refine wp_sw (fun h10_0 => ?_) (fun h10_0 => ?_)
    · refine wp_aload_n dX6_cell_40 rfl ?_
      refine wp_iload_n dX6_cell_41 rfl ?_
      refine wp_cV1 (z := mX6_levelOf) (n' := 243) kX6_47 dX6_cell_42 (Nat.le_of_ble_eq_true rfl) (Nat.le_of_ble_eq_true rfl) tA_235 (Nat.le_of_ble_eq_true rfl) (Nat.le_of_ble_eq_true rfl) (Nat.le_refl _) (Nat.le_refl _) (s_X6_levelOf hs (c := k) hM (by omega) (wp_af ?_))
      refine wp_sipush (v := 10000) dX6_cell_45 (by decide) ?_
      refine wp_iadd dX6_cell_48 ?_
      exact wp_iret dX6_cell_49 rfl rfl rfl (by (repeat' split at hK) <;> first | exact hK | contradiction | (exfalso; simp_all; done))
    refine wp_sw (fun h10_1 => ?_) (fun h10_1 => ?_)
    · refine wp_aload_n dX6_cell_50 rfl ?_
      refine wp_getQ fX6_7 tA_235 rfl hM.f0 (by decide) (Nat.le_of_ble_eq_true rfl) dX6_cell_51 ?_
      refine wp_bipush (v := 46) dX6_cell_54 (by decide) ?_
      refine wp_iload_n dX6_cell_56 rfl ?_
      refine wp_iadd dX6_cell_57 ?_
      refine wp_iadn (i := (46 + k)) (ix_add rfl rfl) tA_236 (Nat.le_of_ble_eq_true rfl) (by rw [lA_236]; omega) (Nat.le_of_ble_eq_true rfl) dX6_cell_58 (congrFun hs _) ?_
      refine wp_sipush (v := 10000) dX6_cell_59 (by decide) ?_
      refine wp_iadd dX6_cell_62 ?_
      exact wp_iret dX6_cell_63 rfl rfl rfl (by (repeat' split at hK) <;> first | exact hK | contradiction | (exfalso; simp_all; done))
    refine wp_sw (fun h10_2 => ?_) (fun h10_2 => ?_)
    · refine wp_aload_n dX6_cell_64 rfl ?_
      refine wp_iload_n dX6_cell_65 rfl ?_
      refine wp_cV1 (z := mX6_isCrest) (n' := 243) kX6_119 dX6_cell_66 (Nat.le_of_ble_eq_true rfl) (Nat.le_of_ble_eq_true rfl) tA_235 (Nat.le_of_ble_eq_true rfl) (Nat.le_of_ble_eq_true rfl) (Nat.le_refl _) (Nat.le_refl _) (s_X6_isCrest hs (c := k) hM hk (wp_af ?_))
      refine wp_if_eq (tgt := 76) dX6_cell_69 (by decide) (fun h69 => ?_) (fun h69 => ?_)
      · refine wp_iconst (v := 0) dX6_cell_76 (by decide) ?_
        exact wp_iret dX6_cell_77 rfl rfl rfl (by first | (rw [crest_1 h69] at hK; (repeat' split at hK) <;> first | exact hK | contradiction | (exfalso; simp_all; done)) | (rw [h69] at hK; (repeat' split at hK) <;> first | exact hK | contradiction | (exfalso; simp_all; done)))
      · refine wp_iconst (v := 1) dX6_cell_72 (by decide) ?_
        refine wp_goto (tgt := 77) dX6_cell_73 (by decide) ?_
        exact wp_iret dX6_cell_77 rfl rfl rfl (by first | (rw [crest_1 h69] at hK; (repeat' split at hK) <;> first | exact hK | contradiction | (exfalso; simp_all; done)) | (rw [h69] at hK; (repeat' split at hK) <;> first | exact hK | contradiction | (exfalso; simp_all; done)))
    refine wp_sw (fun h10_3 => ?_) (fun h10_3 => ?_)
    · refine wp_aload_n dX6_cell_78 rfl ?_
      refine wp_iload_n dX6_cell_79 rfl ?_
      refine wp_cV1 (z := mX6_isTrough) (n' := 243) kX6_122 dX6_cell_80 (Nat.le_of_ble_eq_true rfl) (Nat.le_of_ble_eq_true rfl) tA_235 (Nat.le_of_ble_eq_true rfl) (Nat.le_of_ble_eq_true rfl) (Nat.le_refl _) (Nat.le_refl _) (s_X6_isTrough hs (c := k) hM hk (wp_af ?_))
      refine wp_if_eq (tgt := 90) dX6_cell_83 (by decide) (fun h83 => ?_) (fun h83 => ?_)
      · refine wp_iconst (v := 0) dX6_cell_90 (by decide) ?_
        exact wp_iret dX6_cell_91 rfl rfl rfl (by first | (rw [trough_1 h83] at hK; (repeat' split at hK) <;> first | exact hK | contradiction | (exfalso; simp_all; done)) | (rw [h83] at hK; (repeat' split at hK) <;> first | exact hK | contradiction | (exfalso; simp_all; done)))
      · refine wp_iconst (v := 1) dX6_cell_86 (by decide) ?_
        refine wp_goto (tgt := 91) dX6_cell_87 (by decide) ?_
        exact wp_iret dX6_cell_91 rfl rfl rfl (by first | (rw [trough_1 h83] at hK; (repeat' split at hK) <;> first | exact hK | contradiction | (exfalso; simp_all; done)) | (rw [h83] at hK; (repeat' split at hK) <;> first | exact hK | contradiction | (exfalso; simp_all; done)))
    refine wp_sw0 ?_
    refine wp_bipush (v := (-2)) dX6_cell_92 (by decide) ?_
    exact wp_iret dX6_cell_94 rfl rfl rfl (by (repeat' split at hK) <;> first | exact hK | contradiction | (exfalso; simp_all; done))
  · refine wp_iconst (v := (-1)) dX6_cell_7 (by decide) ?_
    exact wp_iret dX6_cell_8 rfl rfl rfl (hE h4)

theorem lt_pred {k : Int32} {m : Nat} (hm : m < 2 ^ 31) : (0 ≤ k ∧ k ≤ nI m - 1) ↔ (0 ≤ k ∧ k < nI m) := by
  have e : (nI m - 1).toInt = (m : Int) - 1 := by
    rw [sub_int (by rw [nI_toInt hm, show (1 : Int32).toInt = 1 by decide]; omega) (by rw [nI_toInt hm, show (1 : Int32).toInt = 1 by decide]; omega), nI_toInt hm]
    rfl
  rw [Int32.le_iff_toInt_le, Int32.le_iff_toInt_le, Int32.lt_iff_toInt_lt, e, nI_toInt hm]
  omega
theorem rank_in {k : Int32} {m : Nat} (hm : m < 2 ^ 31) (h : 0 ≤ k ∧ k < nI m) : ∃ j, j < m ∧ k = nI j := by
  obtain ⟨j, h1, h2⟩ := nI_of (Int32.not_lt.mpr h.1)
  refine ⟨j, ?_, h2⟩
  rw [h2] at h
  exact (nI_ltI h1 hm).mp h.2
set_option maxRecDepth 100000 in
set_option maxHeartbeats 4000000 in
theorem s_X6_isRank {γ : Gm} {l : Launch} {M : Mm} {R : Rm} {K : KT} {np : Nat} {k : Int32} {sg : Nat → Int32} (hs : M 236 = sg) (hM : RM R) (hn : sg 4 = nI np) (hm : np < 1000) (hK : K (some (.int (b01 (0 ≤ k ∧ k < nI np)))) 243 M R) : CL γ l mX6_isRank 1 243 243 [.ref 235, .int k] M R K := by
  show WP γ l mX6_isRank 1 243 243 0 [some (.ref 235), some (.int k)] [] 243 M R K
  refine wp_iload_n dX6_isRank_0 rfl ?_
  refine wp_iconst (v := 0) dX6_isRank_1 (by decide) ?_
  refine wp_aload_n dX6_isRank_2 rfl ?_
  refine wp_getQ fX6_7 tA_235 rfl hM.f0 (by decide) (Nat.le_of_ble_eq_true rfl) dX6_isRank_3 ?_
  refine wp_iconst (v := 4) dX6_isRank_6 (by decide) ?_
  refine wp_iadn (i := 4) (v := nI np) rfl tA_236 (Nat.le_of_ble_eq_true rfl) (by rw [lA_236]; omega) (Nat.le_of_ble_eq_true rfl) dX6_isRank_7 ((congrFun hs _).trans (hn)) ?_
  refine wp_iconst (v := 1) dX6_isRank_8 (by decide) ?_
  refine wp_isub dX6_isRank_9 ?_
  refine wp_cS3 (z := mX6_within) (n' := 243) kX6_39 dX6_isRank_10 (Nat.le_of_ble_eq_true rfl) (Nat.le_of_ble_eq_true rfl) (Nat.le_of_ble_eq_true rfl) (Nat.le_refl _) (Nat.le_refl _) (s_X6_within (wp_af ?_))
  exact wp_iret dX6_isRank_13 rfl b01_n rfl (by rw [b01_c (lt_pred (by omega))]; exact hK)

set_option maxRecDepth 100000 in
set_option maxHeartbeats 4000000 in
theorem s_X6_isGauge {γ : Gm} {l : Launch} {M : Mm} {R : Rm} {K : KT} {ng : Nat} {k : Int32} {sg : Nat → Int32} (hs : M 236 = sg) (hM : RM R) (hn : sg 5 = nI ng) (hm : ng < 1000) (hK : K (some (.int (b01 (0 ≤ k ∧ k < nI ng)))) 243 M R) : CL γ l mX6_isGauge 1 243 243 [.ref 235, .int k] M R K := by
  show WP γ l mX6_isGauge 1 243 243 0 [some (.ref 235), some (.int k)] [] 243 M R K
  refine wp_iload_n dX6_isGauge_0 rfl ?_
  refine wp_iconst (v := 0) dX6_isGauge_1 (by decide) ?_
  refine wp_aload_n dX6_isGauge_2 rfl ?_
  refine wp_getQ fX6_7 tA_235 rfl hM.f0 (by decide) (Nat.le_of_ble_eq_true rfl) dX6_isGauge_3 ?_
  refine wp_iconst (v := 5) dX6_isGauge_6 (by decide) ?_
  refine wp_iadn (i := 5) (v := nI ng) rfl tA_236 (Nat.le_of_ble_eq_true rfl) (by rw [lA_236]; omega) (Nat.le_of_ble_eq_true rfl) dX6_isGauge_7 ((congrFun hs _).trans (hn)) ?_
  refine wp_iconst (v := 1) dX6_isGauge_8 (by decide) ?_
  refine wp_isub dX6_isGauge_9 ?_
  refine wp_cS3 (z := mX6_within) (n' := 243) kX6_39 dX6_isGauge_10 (Nat.le_of_ble_eq_true rfl) (Nat.le_of_ble_eq_true rfl) (Nat.le_of_ble_eq_true rfl) (Nat.le_refl _) (Nat.le_refl _) (s_X6_within (wp_af ?_))
  exact wp_iret dX6_isGauge_13 rfl b01_n rfl (by rw [b01_c (lt_pred (by omega))]; exact hK)

def ofpR (sg : Nat → Int32) (k : Nat) (w : Int32) : Int32 := if w = 0 then sg (86 + 6 * k + 0) else if w = 1 then sg (86 + 6 * k + 1) else if w = 2 then sg (86 + 6 * k + 2) + 1000 else if w = 3 then sg (86 + 6 * k + 3) else if w = 4 then sg (86 + 6 * k + 4) else if w = 5 then sg (86 + 6 * k + 5) else if w = 6 then pushS sg k + 1000 else -2
set_option maxRecDepth 100000 in
set_option maxHeartbeats 4000000 in
theorem s_X6_ofPaddle {γ : Gm} {l : Launch} {M : Mm} {R : Rm} {K : KT} {np : Nat} {c w : Int32} {sg : Nat → Int32} (hs : M 236 = sg) (hM : RM R) (hn : sg 4 = nI np) (hm : np ≤ 6) (hp : PdS sg np) (hE : ¬ (0 ≤ c ∧ c < nI np) → K (some (.int (-1))) 243 M R) (hK : ∀ k, k < np → c = nI k → K (some (.int (ofpR sg k w))) 243 M R) : CL γ l mX6_ofPaddle 2 243 243 [.ref 235, .int c, .int w] M R K := by
  show WP γ l mX6_ofPaddle 2 243 243 0 [some (.ref 235), some (.int c), some (.int w)] [] 243 M R K
  refine wp_aload_n dX6_ofPaddle_0 rfl ?_
  refine wp_iload_n dX6_ofPaddle_1 rfl ?_
  refine wp_cV1 (z := mX6_isRank) (n' := 243) kX6_125 dX6_ofPaddle_2 (Nat.le_of_ble_eq_true rfl) (Nat.le_of_ble_eq_true rfl) tA_235 (Nat.le_of_ble_eq_true rfl) (Nat.le_of_ble_eq_true rfl) (Nat.le_refl _) (Nat.le_refl _) (s_X6_isRank hs hM hn (by omega) (wp_af ?_))
  refine wp_bq_ne (tgt := 10) dX6_ofPaddle_5 (by decide) (fun h5 => ?_) (fun h5 => ?_)
  · obtain ⟨k, hk, e_c⟩ := rank_in (by omega) h5
    subst e_c
    replace hK := hK k hk rfl
    unfold ofpR at hK
    refine wp_iload_n dX6_ofPaddle_10 rfl ?_
    refine wp_tswitch [(0, 52), (1, 52), (2, 59), (3, 52), (4, 52), (5, 52), (6, 70)] 80 dX6_ofPaddle_11 (by decide) (by decide) (by decide +kernel) ?_
    refine wp_sw (fun h11_0 => ?_) (fun h11_0 => ?_)
    · subst h11_0
      refine wp_aload_n dX6_ofPaddle_52 rfl ?_
      refine wp_iload_n dX6_ofPaddle_53 rfl ?_
      refine wp_iload_n dX6_ofPaddle_54 rfl ?_
      refine wp_cV2 (z := mX6_paddlePart) (n' := 243) kX6_43 dX6_ofPaddle_55 (Nat.le_of_ble_eq_true rfl) (Nat.le_of_ble_eq_true rfl) tA_235 (Nat.le_of_ble_eq_true rfl) (Nat.le_of_ble_eq_true rfl) (Nat.le_refl _) (Nat.le_refl _) (s_X6_paddlePart hs (k := k) (j := 0) hM (by omega) (by omega) (wp_af ?_))
      exact wp_iret dX6_ofPaddle_58 rfl rfl rfl (by first | exact hK | (simp at hK; exact hK) | ((repeat' split at hK) <;> first | exact hK | contradiction | (exfalso; simp_all; done)))
    refine wp_sw (fun h11_1 => ?_) (fun h11_1 => ?_)
    · subst h11_1
      refine wp_aload_n dX6_ofPaddle_52 rfl ?_
      refine wp_iload_n dX6_ofPaddle_53 rfl ?_
      refine wp_iload_n dX6_ofPaddle_54 rfl ?_
      refine wp_cV2 (z := mX6_paddlePart) (n' := 243) kX6_43 dX6_ofPaddle_55 (Nat.le_of_ble_eq_true rfl) (Nat.le_of_ble_eq_true rfl) tA_235 (Nat.le_of_ble_eq_true rfl) (Nat.le_of_ble_eq_true rfl) (Nat.le_refl _) (Nat.le_refl _) (s_X6_paddlePart hs (k := k) (j := 1) hM (by omega) (by omega) (wp_af ?_))
      exact wp_iret dX6_ofPaddle_58 rfl rfl rfl (by first | exact hK | (simp at hK; exact hK) | ((repeat' split at hK) <;> first | exact hK | contradiction | (exfalso; simp_all; done)))
    refine wp_sw (fun h11_2 => ?_) (fun h11_2 => ?_)
    · subst h11_2
      refine wp_aload_n dX6_ofPaddle_59 rfl ?_
      refine wp_iload_n dX6_ofPaddle_60 rfl ?_
      refine wp_iconst (v := 2) dX6_ofPaddle_61 (by decide) ?_
      refine wp_cV2 (z := mX6_paddlePart) (n' := 243) kX6_43 dX6_ofPaddle_62 (Nat.le_of_ble_eq_true rfl) (Nat.le_of_ble_eq_true rfl) tA_235 (Nat.le_of_ble_eq_true rfl) (Nat.le_of_ble_eq_true rfl) (Nat.le_refl _) (Nat.le_refl _) (s_X6_paddlePart hs (k := k) (j := 2) hM (by omega) (by omega) (wp_af ?_))
      refine wp_sipush (v := 1000) dX6_ofPaddle_65 (by decide) ?_
      refine wp_iadd dX6_ofPaddle_68 ?_
      exact wp_iret dX6_ofPaddle_69 rfl rfl rfl (by first | exact hK | (simp at hK; exact hK) | ((repeat' split at hK) <;> first | exact hK | contradiction | (exfalso; simp_all; done)))
    refine wp_sw (fun h11_3 => ?_) (fun h11_3 => ?_)
    · subst h11_3
      refine wp_aload_n dX6_ofPaddle_52 rfl ?_
      refine wp_iload_n dX6_ofPaddle_53 rfl ?_
      refine wp_iload_n dX6_ofPaddle_54 rfl ?_
      refine wp_cV2 (z := mX6_paddlePart) (n' := 243) kX6_43 dX6_ofPaddle_55 (Nat.le_of_ble_eq_true rfl) (Nat.le_of_ble_eq_true rfl) tA_235 (Nat.le_of_ble_eq_true rfl) (Nat.le_of_ble_eq_true rfl) (Nat.le_refl _) (Nat.le_refl _) (s_X6_paddlePart hs (k := k) (j := 3) hM (by omega) (by omega) (wp_af ?_))
      exact wp_iret dX6_ofPaddle_58 rfl rfl rfl (by first | exact hK | (simp at hK; exact hK) | ((repeat' split at hK) <;> first | exact hK | contradiction | (exfalso; simp_all; done)))
    refine wp_sw (fun h11_4 => ?_) (fun h11_4 => ?_)
    · subst h11_4
      refine wp_aload_n dX6_ofPaddle_52 rfl ?_
      refine wp_iload_n dX6_ofPaddle_53 rfl ?_
      refine wp_iload_n dX6_ofPaddle_54 rfl ?_
      refine wp_cV2 (z := mX6_paddlePart) (n' := 243) kX6_43 dX6_ofPaddle_55 (Nat.le_of_ble_eq_true rfl) (Nat.le_of_ble_eq_true rfl) tA_235 (Nat.le_of_ble_eq_true rfl) (Nat.le_of_ble_eq_true rfl) (Nat.le_refl _) (Nat.le_refl _) (s_X6_paddlePart hs (k := k) (j := 4) hM (by omega) (by omega) (wp_af ?_))
      exact wp_iret dX6_ofPaddle_58 rfl rfl rfl (by first | exact hK | (simp at hK; exact hK) | ((repeat' split at hK) <;> first | exact hK | contradiction | (exfalso; simp_all; done)))
    refine wp_sw (fun h11_5 => ?_) (fun h11_5 => ?_)
    · subst h11_5
      refine wp_aload_n dX6_ofPaddle_52 rfl ?_
      refine wp_iload_n dX6_ofPaddle_53 rfl ?_
      refine wp_iload_n dX6_ofPaddle_54 rfl ?_
      refine wp_cV2 (z := mX6_paddlePart) (n' := 243) kX6_43 dX6_ofPaddle_55 (Nat.le_of_ble_eq_true rfl) (Nat.le_of_ble_eq_true rfl) tA_235 (Nat.le_of_ble_eq_true rfl) (Nat.le_of_ble_eq_true rfl) (Nat.le_refl _) (Nat.le_refl _) (s_X6_paddlePart hs (k := k) (j := 5) hM (by omega) (by omega) (wp_af ?_))
      exact wp_iret dX6_ofPaddle_58 rfl rfl rfl (by first | exact hK | (simp at hK; exact hK) | ((repeat' split at hK) <;> first | exact hK | contradiction | (exfalso; simp_all; done)))
    refine wp_sw (fun h11_6 => ?_) (fun h11_6 => ?_)
    · subst h11_6
      refine wp_aload_n dX6_ofPaddle_70 rfl ?_
      refine wp_iload_n dX6_ofPaddle_71 rfl ?_
      refine wp_cV1 (z := mX6_push) (n' := 243) kX6_58 dX6_ofPaddle_72 (Nat.le_of_ble_eq_true rfl) (Nat.le_of_ble_eq_true rfl) tA_235 (Nat.le_of_ble_eq_true rfl) (Nat.le_of_ble_eq_true rfl) (Nat.le_refl _) (Nat.le_refl _) (s_X6_push hs (k := k) hM (by omega) (hp k hk).2 (wp_af ?_))
      refine wp_sipush (v := 1000) dX6_ofPaddle_75 (by decide) ?_
      refine wp_iadd dX6_ofPaddle_78 ?_
      exact wp_iret dX6_ofPaddle_79 rfl rfl rfl (by first | exact hK | (simp at hK; exact hK) | ((repeat' split at hK) <;> first | exact hK | contradiction | (exfalso; simp_all; done)))
    refine wp_sw0 ?_
    refine wp_bipush (v := (-2)) dX6_ofPaddle_80 (by decide) ?_
    exact wp_iret dX6_ofPaddle_82 rfl rfl rfl (by first | exact hK | (simp at hK; exact hK) | ((repeat' split at hK) <;> first | exact hK | contradiction | (exfalso; simp_all; done)))
  · refine wp_iconst (v := (-1)) dX6_ofPaddle_8 (by decide) ?_
    exact wp_iret dX6_ofPaddle_9 rfl rfl rfl (hE h5)

def exU (gr : Int32) (f : Nat → Int32) : Nat → Int32
  | 0 => f 0
  | k + 1 => if gr = 0 then (if f (k + 1) < exU gr f k then f (k + 1) else exU gr f k) else (if exU gr f k < f (k + 1) then f (k + 1) else exU gr f k)
def exR (sg : Nat → Int32) (g m : Nat) (gr : Int32) : Int32 := if m = 0 then -6 else exU gr (fun i => sg (122 + 62 * g + (2 + i))) (m - 1) + 10000
def riU (f : Nat → Int32) : Nat → Int32
  | 0 => 0
  | k + 1 => riU f k + (if 0 ≤ f (k + 1) ∧ f k < 0 then 1 else 0)
set_option maxRecDepth 100000 in
set_option maxHeartbeats 4000000 in
theorem s_X6_extreme {γ : Gm} {l : Launch} {M : Mm} {R : Rm} {K : KT} {g m : Nat} {gr : Int32} {sg : Nat → Int32} (hs : M 236 = sg) (hM : RM R) (hg : g < 4) (hm : m ≤ 60) (hk : sg (122 + 62 * g + 1) = nI m) (hK : K (some (.int (exR sg g m gr))) 243 M R) : CL γ l mX6_extreme 1 243 243 [.ref 235, .int (nI g), .int gr] M R K := by
  show WP γ l mX6_extreme 1 243 243 0 [some (.ref 235), some (.int (nI g)), some (.int gr), none, none, none, none] [] 243 M R K
  have loop : ∀ (q k : Nat) (fd : Int32), fd = exU gr (fun i => sg (122 + 62 * g + (2 + i))) (k - 1) → m - k < q → 1 ≤ k → (k ≤ m ∨ k = 1) → WP γ l mX6_extreme 1 243 243 18 [some (.ref 235), some (.int (nI g)), some (.int gr), some (.int (nI m)), some (.int fd), some (.int (nI k)), none] [] 243 M R K := by
    intro q
    induction q with
    | zero => intro k fd _ h h1 h2; omega
    | succ q ih =>
      intro k fd hfd hq h1k hk2
      refine wp_iload dX6_extreme_18 rfl ?_
      refine wp_iload_n dX6_extreme_20 rfl ?_
      refine wp_icN_ge (a := k) (b := m) (tgt := 71) dX6_extreme_21 (by decide) rfl rfl (by omega) (by omega) (fun h21 => ?_) (fun h21 => ?_)
      · refine wp_iload_n dX6_extreme_71 rfl ?_
        refine wp_ifN_ne (a := m) (tgt := 80) dX6_extreme_72 (by decide) rfl (by omega) (fun h72 => ?_) (fun h72 => ?_)
        · refine wp_iload dX6_extreme_80 rfl ?_
          refine wp_sipush (v := 10000) dX6_extreme_82 (by decide) ?_
          refine wp_iadd dX6_extreme_85 ?_
          exact wp_iret dX6_extreme_86 rfl rfl rfl (by
        unfold exR at hK
        first | (rw [if_pos (by assumption)] at hK; exact hK) | (rw [if_neg (by omega), ← show k - 1 = m - 1 by omega, ← hfd] at hK; exact hK))
        · refine wp_bipush (v := (-6)) dX6_extreme_75 (by decide) ?_
          refine wp_goto (tgt := 86) dX6_extreme_77 (by decide) ?_
          exact wp_iret dX6_extreme_86 rfl rfl rfl (by
        unfold exR at hK
        first | (rw [if_pos (by assumption)] at hK; exact hK) | (rw [if_neg (by omega), ← show k - 1 = m - 1 by omega, ← hfd] at hK; exact hK))
      · refine wp_aload_n dX6_extreme_24 rfl ?_
        refine wp_iload_n dX6_extreme_25 rfl ?_
        refine wp_iconst (v := 2) dX6_extreme_26 (by decide) ?_
        refine wp_iload dX6_extreme_27 rfl ?_
        refine wp_iadd dX6_extreme_29 ?_
        refine wp_top (z := nI (2 + k)) (ix_add rfl rfl) ?_
        refine wp_cV2 (z := mX6_gaugePart) (n' := 243) kX6_128 dX6_extreme_30 (Nat.le_of_ble_eq_true rfl) (Nat.le_of_ble_eq_true rfl) tA_235 (Nat.le_of_ble_eq_true rfl) (Nat.le_of_ble_eq_true rfl) (Nat.le_refl _) (Nat.le_refl _) (s_X6_gaugePart hs (k := g) (j := (2 + k)) hM (by omega) (by omega) (wp_af ?_))
        refine wp_topv (fun v e_v => ?_)
        refine wp_istore (L' := [some (.ref 235), some (.int (nI g)), some (.int gr), some (.int (nI m)), some (.int fd), some (.int (nI k)), some (.int v)]) dX6_extreme_33 (by decide) rfl ?_
        refine wp_iload_n dX6_extreme_35 rfl ?_
        refine wp_if_eq (tgt := 49) dX6_extreme_36 (by decide) (fun h36 => ?_) (fun h36 => ?_)
        · refine wp_iload dX6_extreme_49 rfl ?_
          refine wp_iload dX6_extreme_51 rfl ?_
          refine wp_icmp_ge (tgt := 61) dX6_extreme_53 (by decide) (fun h53 => ?_) (fun h53 => ?_)
          · refine wp_iload dX6_extreme_61 rfl ?_
            refine wp_istore (L' := [some (.ref 235), some (.int (nI g)), some (.int gr), some (.int (nI m)), some (.int fd), some (.int (nI k)), some (.int v)]) dX6_extreme_63 (by decide) rfl ?_
            refine wp_iinc (v := nI (k + 1)) (L' := [some (.ref 235), some (.int (nI g)), some (.int gr), some (.int (nI m)), some (.int fd), some (.int (nI (k + 1))), some (.int v)]) dX6_extreme_65 (by decide) rfl (inc_1 _) rfl ?_
            refine wp_goto (tgt := 18) dX6_extreme_68 (by decide) ?_
            refine wp_drop [some (.ref 235), some (.int (nI g)), some (.int gr), some (.int (nI m)), some (.int _), some (.int _), none] (by repeat constructor) ?_
            refine ih (k + 1) _ ?_ (by omega) (by omega) (by omega)
            obtain ⟨j, rfl⟩ : ∃ j, k = j + 1 := ⟨k - 1, by omega⟩
            rw [Nat.add_sub_cancel] at hfd ⊢
            rw [exU, ← hfd]
            have e_v2 : v = sg (122 + 62 * g + (2 + (j + 1))) := e_v
            rw [← e_v2]
            first | rw [if_pos (by assumption), if_pos (Int32.not_le.mp (by assumption))] | rw [if_pos (by assumption), if_neg (Int32.not_lt.mpr (by assumption))] | rw [if_neg (by assumption), if_pos (Int32.not_le.mp (by assumption))] | rw [if_neg (by assumption), if_neg (Int32.not_lt.mpr (by assumption))]
          · refine wp_iload dX6_extreme_56 rfl ?_
            refine wp_goto (tgt := 63) dX6_extreme_58 (by decide) ?_
            refine wp_istore (L' := [some (.ref 235), some (.int (nI g)), some (.int gr), some (.int (nI m)), some (.int v), some (.int (nI k)), some (.int v)]) dX6_extreme_63 (by decide) rfl ?_
            refine wp_iinc (v := nI (k + 1)) (L' := [some (.ref 235), some (.int (nI g)), some (.int gr), some (.int (nI m)), some (.int v), some (.int (nI (k + 1))), some (.int v)]) dX6_extreme_65 (by decide) rfl (inc_1 _) rfl ?_
            refine wp_goto (tgt := 18) dX6_extreme_68 (by decide) ?_
            refine wp_drop [some (.ref 235), some (.int (nI g)), some (.int gr), some (.int (nI m)), some (.int _), some (.int _), none] (by repeat constructor) ?_
            refine ih (k + 1) _ ?_ (by omega) (by omega) (by omega)
            obtain ⟨j, rfl⟩ : ∃ j, k = j + 1 := ⟨k - 1, by omega⟩
            rw [Nat.add_sub_cancel] at hfd ⊢
            rw [exU, ← hfd]
            have e_v2 : v = sg (122 + 62 * g + (2 + (j + 1))) := e_v
            rw [← e_v2]
            first | rw [if_pos (by assumption), if_pos (Int32.not_le.mp (by assumption))] | rw [if_pos (by assumption), if_neg (Int32.not_lt.mpr (by assumption))] | rw [if_neg (by assumption), if_pos (Int32.not_le.mp (by assumption))] | rw [if_neg (by assumption), if_neg (Int32.not_lt.mpr (by assumption))]
        · refine wp_iload dX6_extreme_39 rfl ?_
          refine wp_iload dX6_extreme_41 rfl ?_
          refine wp_icmp_le (tgt := 61) dX6_extreme_43 (by decide) (fun h43 => ?_) (fun h43 => ?_)
          · refine wp_iload dX6_extreme_61 rfl ?_
            refine wp_istore (L' := [some (.ref 235), some (.int (nI g)), some (.int gr), some (.int (nI m)), some (.int fd), some (.int (nI k)), some (.int v)]) dX6_extreme_63 (by decide) rfl ?_
            refine wp_iinc (v := nI (k + 1)) (L' := [some (.ref 235), some (.int (nI g)), some (.int gr), some (.int (nI m)), some (.int fd), some (.int (nI (k + 1))), some (.int v)]) dX6_extreme_65 (by decide) rfl (inc_1 _) rfl ?_
            refine wp_goto (tgt := 18) dX6_extreme_68 (by decide) ?_
            refine wp_drop [some (.ref 235), some (.int (nI g)), some (.int gr), some (.int (nI m)), some (.int _), some (.int _), none] (by repeat constructor) ?_
            refine ih (k + 1) _ ?_ (by omega) (by omega) (by omega)
            obtain ⟨j, rfl⟩ : ∃ j, k = j + 1 := ⟨k - 1, by omega⟩
            rw [Nat.add_sub_cancel] at hfd ⊢
            rw [exU, ← hfd]
            have e_v2 : v = sg (122 + 62 * g + (2 + (j + 1))) := e_v
            rw [← e_v2]
            first | rw [if_pos (by assumption), if_pos (Int32.not_le.mp (by assumption))] | rw [if_pos (by assumption), if_neg (Int32.not_lt.mpr (by assumption))] | rw [if_neg (by assumption), if_pos (Int32.not_le.mp (by assumption))] | rw [if_neg (by assumption), if_neg (Int32.not_lt.mpr (by assumption))]
          · refine wp_goto (tgt := 56) dX6_extreme_46 (by decide) ?_
            refine wp_iload dX6_extreme_56 rfl ?_
            refine wp_goto (tgt := 63) dX6_extreme_58 (by decide) ?_
            refine wp_istore (L' := [some (.ref 235), some (.int (nI g)), some (.int gr), some (.int (nI m)), some (.int v), some (.int (nI k)), some (.int v)]) dX6_extreme_63 (by decide) rfl ?_
            refine wp_iinc (v := nI (k + 1)) (L' := [some (.ref 235), some (.int (nI g)), some (.int gr), some (.int (nI m)), some (.int v), some (.int (nI (k + 1))), some (.int v)]) dX6_extreme_65 (by decide) rfl (inc_1 _) rfl ?_
            refine wp_goto (tgt := 18) dX6_extreme_68 (by decide) ?_
            refine wp_drop [some (.ref 235), some (.int (nI g)), some (.int gr), some (.int (nI m)), some (.int _), some (.int _), none] (by repeat constructor) ?_
            refine ih (k + 1) _ ?_ (by omega) (by omega) (by omega)
            obtain ⟨j, rfl⟩ : ∃ j, k = j + 1 := ⟨k - 1, by omega⟩
            rw [Nat.add_sub_cancel] at hfd ⊢
            rw [exU, ← hfd]
            have e_v2 : v = sg (122 + 62 * g + (2 + (j + 1))) := e_v
            rw [← e_v2]
            first | rw [if_pos (by assumption), if_pos (Int32.not_le.mp (by assumption))] | rw [if_pos (by assumption), if_neg (Int32.not_lt.mpr (by assumption))] | rw [if_neg (by assumption), if_pos (Int32.not_le.mp (by assumption))] | rw [if_neg (by assumption), if_neg (Int32.not_lt.mpr (by assumption))]
  refine wp_aload_n dX6_extreme_0 rfl ?_
  refine wp_iload_n dX6_extreme_1 rfl ?_
  refine wp_iconst (v := 1) dX6_extreme_2 (by decide) ?_
  refine wp_cV2 (z := mX6_gaugePart) (n' := 243) kX6_128 dX6_extreme_3 (Nat.le_of_ble_eq_true rfl) (Nat.le_of_ble_eq_true rfl) tA_235 (Nat.le_of_ble_eq_true rfl) (Nat.le_of_ble_eq_true rfl) (Nat.le_refl _) (Nat.le_refl _) (s_X6_gaugePart hs (k := g) (j := 1) hM (by omega) (by omega) (wp_af ?_))
  refine wp_top (hk) ?_
  refine wp_istore_n (L' := [some (.ref 235), some (.int (nI g)), some (.int gr), some (.int (nI m)), none, none, none]) dX6_extreme_6 (by decide) rfl ?_
  refine wp_aload_n dX6_extreme_7 rfl ?_
  refine wp_iload_n dX6_extreme_8 rfl ?_
  refine wp_iconst (v := 2) dX6_extreme_9 (by decide) ?_
  refine wp_cV2 (z := mX6_gaugePart) (n' := 243) kX6_128 dX6_extreme_10 (Nat.le_of_ble_eq_true rfl) (Nat.le_of_ble_eq_true rfl) tA_235 (Nat.le_of_ble_eq_true rfl) (Nat.le_of_ble_eq_true rfl) (Nat.le_refl _) (Nat.le_refl _) (s_X6_gaugePart hs (k := g) (j := 2) hM (by omega) (by omega) (wp_af ?_))
  refine wp_istore (L' := [some (.ref 235), some (.int (nI g)), some (.int gr), some (.int (nI m)), some (.int _), none, none]) dX6_extreme_13 (by decide) rfl ?_
  refine wp_iconst (v := 1) dX6_extreme_15 (by decide) ?_
  refine wp_istore (L' := [some (.ref 235), some (.int (nI g)), some (.int gr), some (.int (nI m)), some (.int _), some (.int _), none]) dX6_extreme_16 (by decide) rfl ?_
  exact loop (m + 1) 1 _ rfl (by omega) (by omega) (by omega)

set_option maxRecDepth 100000 in
set_option maxHeartbeats 4000000 in
theorem s_X6_risings {γ : Gm} {l : Launch} {M : Mm} {R : Rm} {K : KT} {g m : Nat} {sg : Nat → Int32} (hs : M 236 = sg) (hM : RM R) (hg : g < 4) (hm : m ≤ 60) (hk : sg (122 + 62 * g + 1) = nI m) (hK : K (some (.int (riU (fun i => sg (122 + 62 * g + (2 + i))) (m - 1)))) 243 M R) : CL γ l mX6_risings 1 243 243 [.ref 235, .int (nI g)] M R K := by
  show WP γ l mX6_risings 1 243 243 0 [some (.ref 235), some (.int (nI g)), none, none] [] 243 M R K
  have loop : ∀ (q k : Nat) (st : Int32), st = riU (fun i => sg (122 + 62 * g + (2 + i))) (k - 1) → m - k < q → 1 ≤ k → (k ≤ m ∨ k = 1) → WP γ l mX6_risings 1 243 243 4 [some (.ref 235), some (.int (nI g)), some (.int st), some (.int (nI k))] [] 243 M R K := by
    intro q
    induction q with
    | zero => intro k st _ h h1 h2; omega
    | succ q ih =>
      intro k st hst hq h1k hk2
      refine wp_iload_n dX6_risings_4 rfl ?_
      refine wp_aload_n dX6_risings_5 rfl ?_
      refine wp_iload_n dX6_risings_6 rfl ?_
      refine wp_iconst (v := 1) dX6_risings_7 (by decide) ?_
      refine wp_cV2 (z := mX6_gaugePart) (n' := 243) kX6_128 dX6_risings_8 (Nat.le_of_ble_eq_true rfl) (Nat.le_of_ble_eq_true rfl) tA_235 (Nat.le_of_ble_eq_true rfl) (Nat.le_of_ble_eq_true rfl) (Nat.le_refl _) (Nat.le_refl _) (s_X6_gaugePart hs (k := g) (j := 1) hM (by omega) (by omega) (wp_af ?_))
      refine wp_top (hk) ?_
      refine wp_icN_ge (a := k) (b := m) (tgt := 52) dX6_risings_11 (by decide) rfl rfl (by omega) (by omega) (fun h11 => ?_) (fun h11 => ?_)
      · refine wp_iload_n dX6_risings_52 rfl ?_
        exact wp_iret dX6_risings_53 rfl rfl rfl (by rw [hst, show k - 1 = m - 1 by omega]; exact hK)
      · refine wp_iload_n dX6_risings_14 rfl ?_
        refine wp_aload_n dX6_risings_15 rfl ?_
        refine wp_iload_n dX6_risings_16 rfl ?_
        refine wp_iconst (v := 2) dX6_risings_17 (by decide) ?_
        refine wp_iload_n dX6_risings_18 rfl ?_
        refine wp_iadd dX6_risings_19 ?_
        refine wp_top (z := nI (2 + k)) (ix_add rfl rfl) ?_
        refine wp_cV2 (z := mX6_gaugePart) (n' := 243) kX6_128 dX6_risings_20 (Nat.le_of_ble_eq_true rfl) (Nat.le_of_ble_eq_true rfl) tA_235 (Nat.le_of_ble_eq_true rfl) (Nat.le_of_ble_eq_true rfl) (Nat.le_refl _) (Nat.le_refl _) (s_X6_gaugePart hs (k := g) (j := (2 + k)) hM (by omega) (by omega) (wp_af ?_))
        refine wp_if_lt (tgt := 43) dX6_risings_23 (by decide) (fun h23 => ?_) (fun h23 => ?_)
        · refine wp_iconst (v := 0) dX6_risings_43 (by decide) ?_
          refine wp_iadd dX6_risings_44 ?_
          refine wp_istore_n (L' := [some (.ref 235), some (.int (nI g)), some (.int _), some (.int (nI k))]) dX6_risings_45 (by decide) rfl ?_
          refine wp_iinc (v := nI (k + 1)) (L' := [some (.ref 235), some (.int (nI g)), some (.int _), some (.int (nI (k + 1)))]) dX6_risings_46 (by decide) rfl (inc_1 _) rfl ?_
          refine wp_goto (tgt := 4) dX6_risings_49 (by decide) ?_
          refine ih (k + 1) _ ?_ (by omega) (by omega) (by omega)
          obtain ⟨j, rfl⟩ : ∃ j, k = j + 1 := ⟨k - 1, by omega⟩
          rw [Nat.add_sub_cancel] at hst ⊢
          rw [riU, ← hst]
          congr 1
          first
            | exact (if_neg (fun q => by have := Int32.not_le.mpr ‹_ < (0 : Int32)›; exact this q.1)).symm
            | exact (if_neg (fun q => by have h9 := Int32.not_lt.mpr ‹(0 : Int32) ≤ _›; exact h9 q.2)).symm
            | exact (if_pos ⟨Int32.not_lt.mp ‹¬ _ < (0 : Int32)›, Int32.not_le.mp ‹¬ (0 : Int32) ≤ _›⟩).symm
        · refine wp_aload_n dX6_risings_26 rfl ?_
          refine wp_iload_n dX6_risings_27 rfl ?_
          refine wp_iconst (v := 2) dX6_risings_28 (by decide) ?_
          refine wp_iload_n dX6_risings_29 rfl ?_
          refine wp_iadd dX6_risings_30 ?_
          refine wp_iconst (v := 1) dX6_risings_31 (by decide) ?_
          refine wp_isub dX6_risings_32 ?_
          refine wp_top (z := nI ((2 + k) - 1)) (ix_sub (a := (2 + k)) (b := 1) (ix_add rfl rfl) rfl (by omega)) ?_
          refine wp_cV2 (z := mX6_gaugePart) (n' := 243) kX6_128 dX6_risings_33 (Nat.le_of_ble_eq_true rfl) (Nat.le_of_ble_eq_true rfl) tA_235 (Nat.le_of_ble_eq_true rfl) (Nat.le_of_ble_eq_true rfl) (Nat.le_refl _) (Nat.le_refl _) (s_X6_gaugePart hs (k := g) (j := ((2 + k) - 1)) hM (by omega) (by omega) (wp_af ?_))
          refine wp_if_ge (tgt := 43) dX6_risings_36 (by decide) (fun h36 => ?_) (fun h36 => ?_)
          · refine wp_iconst (v := 0) dX6_risings_43 (by decide) ?_
            refine wp_iadd dX6_risings_44 ?_
            refine wp_istore_n (L' := [some (.ref 235), some (.int (nI g)), some (.int _), some (.int (nI k))]) dX6_risings_45 (by decide) rfl ?_
            refine wp_iinc (v := nI (k + 1)) (L' := [some (.ref 235), some (.int (nI g)), some (.int _), some (.int (nI (k + 1)))]) dX6_risings_46 (by decide) rfl (inc_1 _) rfl ?_
            refine wp_goto (tgt := 4) dX6_risings_49 (by decide) ?_
            refine ih (k + 1) _ ?_ (by omega) (by omega) (by omega)
            obtain ⟨j, rfl⟩ : ∃ j, k = j + 1 := ⟨k - 1, by omega⟩
            rw [Nat.add_sub_cancel] at hst ⊢
            rw [riU, ← hst]
            congr 1
            first
              | exact (if_neg (fun q => by have := Int32.not_le.mpr ‹_ < (0 : Int32)›; exact this q.1)).symm
              | exact (if_neg (fun q => by have h9 := Int32.not_lt.mpr ‹(0 : Int32) ≤ _›; exact h9 q.2)).symm
              | exact (if_pos ⟨Int32.not_lt.mp ‹¬ _ < (0 : Int32)›, Int32.not_le.mp ‹¬ (0 : Int32) ≤ _›⟩).symm
          · refine wp_iconst (v := 1) dX6_risings_39 (by decide) ?_
            refine wp_goto (tgt := 44) dX6_risings_40 (by decide) ?_
            refine wp_iadd dX6_risings_44 ?_
            refine wp_istore_n (L' := [some (.ref 235), some (.int (nI g)), some (.int _), some (.int (nI k))]) dX6_risings_45 (by decide) rfl ?_
            refine wp_iinc (v := nI (k + 1)) (L' := [some (.ref 235), some (.int (nI g)), some (.int _), some (.int (nI (k + 1)))]) dX6_risings_46 (by decide) rfl (inc_1 _) rfl ?_
            refine wp_goto (tgt := 4) dX6_risings_49 (by decide) ?_
            refine ih (k + 1) _ ?_ (by omega) (by omega) (by omega)
            obtain ⟨j, rfl⟩ : ∃ j, k = j + 1 := ⟨k - 1, by omega⟩
            rw [Nat.add_sub_cancel] at hst ⊢
            rw [riU, ← hst]
            congr 1
            first
              | exact (if_neg (fun q => by have := Int32.not_le.mpr ‹_ < (0 : Int32)›; exact this q.1)).symm
              | exact (if_neg (fun q => by have h9 := Int32.not_lt.mpr ‹(0 : Int32) ≤ _›; exact h9 q.2)).symm
              | exact (if_pos ⟨Int32.not_lt.mp ‹¬ _ < (0 : Int32)›, Int32.not_le.mp ‹¬ (0 : Int32) ≤ _›⟩).symm
  refine wp_iconst (v := 0) dX6_risings_0 (by decide) ?_
  refine wp_istore_n (L' := [some (.ref 235), some (.int (nI g)), some (.int _), none]) dX6_risings_1 (by decide) rfl ?_
  refine wp_iconst (v := 1) dX6_risings_2 (by decide) ?_
  refine wp_istore_n (L' := [some (.ref 235), some (.int (nI g)), some (.int _), some (.int _)]) dX6_risings_3 (by decide) rfl ?_
  exact loop (m + 1) 1 _ rfl (by omega) (by omega) (by omega)

def ofgR (sg : Nat → Int32) (g m : Nat) (w : Int32) : Int32 := if w = 0 then sg (122 + 62 * g + 0) else if w = 1 then sg (122 + 62 * g + 1) else if w = 2 then exR sg g m 1 else if w = 3 then exR sg g m 0 else if w = 4 then riU (fun i => sg (122 + 62 * g + (2 + i))) (m - 1) else -2
set_option maxRecDepth 100000 in
set_option maxHeartbeats 4000000 in
theorem s_X6_ofGauge {γ : Gm} {l : Launch} {M : Mm} {R : Rm} {K : KT} {ng : Nat} {c w : Int32} {sg : Nat → Int32} (hs : M 236 = sg) (hM : RM R) (hn : sg 5 = nI ng) (hm : ng ≤ 4) (hp : GgS sg ng) (hE : ¬ (0 ≤ c ∧ c < nI ng) → K (some (.int (-1))) 243 M R) (hK : ∀ k m, k < ng → m ≤ 60 → c = nI k → sg (122 + 62 * k + 1) = nI m → K (some (.int (ofgR sg k m w))) 243 M R) : CL γ l mX6_ofGauge 2 243 243 [.ref 235, .int c, .int w] M R K := by
  show WP γ l mX6_ofGauge 2 243 243 0 [some (.ref 235), some (.int c), some (.int w)] [] 243 M R K
  refine wp_aload_n dX6_ofGauge_0 rfl ?_
  refine wp_iload_n dX6_ofGauge_1 rfl ?_
  refine wp_cV1 (z := mX6_isGauge) (n' := 243) kX6_131 dX6_ofGauge_2 (Nat.le_of_ble_eq_true rfl) (Nat.le_of_ble_eq_true rfl) tA_235 (Nat.le_of_ble_eq_true rfl) (Nat.le_of_ble_eq_true rfl) (Nat.le_refl _) (Nat.le_refl _) (s_X6_isGauge hs hM hn (by omega) (wp_af ?_))
  refine wp_bq_ne (tgt := 10) dX6_ofGauge_5 (by decide) (fun h5 => ?_) (fun h5 => ?_)
  · obtain ⟨k, hk, e_c⟩ := rank_in (by omega) h5
    subst e_c
    obtain ⟨-, m, hm60, e_m⟩ := hp k hk
    replace hK := hK k m hk hm60 rfl e_m
    unfold ofgR at hK
    refine wp_iload_n dX6_ofGauge_10 rfl ?_
    refine wp_tswitch [(0, 44), (1, 44), (2, 51), (3, 58), (4, 65)] 71 dX6_ofGauge_11 (by decide) (by decide) (by decide +kernel) ?_
    refine wp_sw (fun h11_0 => ?_) (fun h11_0 => ?_)
    · subst h11_0
      refine wp_aload_n dX6_ofGauge_44 rfl ?_
      refine wp_iload_n dX6_ofGauge_45 rfl ?_
      refine wp_iload_n dX6_ofGauge_46 rfl ?_
      refine wp_cV2 (z := mX6_gaugePart) (n' := 243) kX6_128 dX6_ofGauge_47 (Nat.le_of_ble_eq_true rfl) (Nat.le_of_ble_eq_true rfl) tA_235 (Nat.le_of_ble_eq_true rfl) (Nat.le_of_ble_eq_true rfl) (Nat.le_refl _) (Nat.le_refl _) (s_X6_gaugePart hs (k := k) (j := 0) hM (by omega) (by omega) (wp_af ?_))
      exact wp_iret dX6_ofGauge_50 rfl rfl rfl (by first | exact hK | (simp at hK; exact hK) | ((repeat' split at hK) <;> first | exact hK | contradiction | (exfalso; simp_all; done)))
    refine wp_sw (fun h11_1 => ?_) (fun h11_1 => ?_)
    · subst h11_1
      refine wp_aload_n dX6_ofGauge_44 rfl ?_
      refine wp_iload_n dX6_ofGauge_45 rfl ?_
      refine wp_iload_n dX6_ofGauge_46 rfl ?_
      refine wp_cV2 (z := mX6_gaugePart) (n' := 243) kX6_128 dX6_ofGauge_47 (Nat.le_of_ble_eq_true rfl) (Nat.le_of_ble_eq_true rfl) tA_235 (Nat.le_of_ble_eq_true rfl) (Nat.le_of_ble_eq_true rfl) (Nat.le_refl _) (Nat.le_refl _) (s_X6_gaugePart hs (k := k) (j := 1) hM (by omega) (by omega) (wp_af ?_))
      exact wp_iret dX6_ofGauge_50 rfl rfl rfl (by first | exact hK | (simp at hK; exact hK) | ((repeat' split at hK) <;> first | exact hK | contradiction | (exfalso; simp_all; done)))
    refine wp_sw (fun h11_2 => ?_) (fun h11_2 => ?_)
    · subst h11_2
      refine wp_aload_n dX6_ofGauge_51 rfl ?_
      refine wp_iload_n dX6_ofGauge_52 rfl ?_
      refine wp_iconst (v := 1) dX6_ofGauge_53 (by decide) ?_
      refine wp_cV2 (z := mX6_extreme) (n' := 243) kX6_134 dX6_ofGauge_54 (Nat.le_of_ble_eq_true rfl) (Nat.le_of_ble_eq_true rfl) tA_235 (Nat.le_of_ble_eq_true rfl) (Nat.le_of_ble_eq_true rfl) (Nat.le_refl _) (Nat.le_refl _) (s_X6_extreme hs hM (by omega) hm60 e_m (wp_af ?_))
      exact wp_iret dX6_ofGauge_57 rfl rfl rfl (by first | exact hK | (simp at hK; exact hK) | ((repeat' split at hK) <;> first | exact hK | contradiction | (exfalso; simp_all; done)))
    refine wp_sw (fun h11_3 => ?_) (fun h11_3 => ?_)
    · subst h11_3
      refine wp_aload_n dX6_ofGauge_58 rfl ?_
      refine wp_iload_n dX6_ofGauge_59 rfl ?_
      refine wp_iconst (v := 0) dX6_ofGauge_60 (by decide) ?_
      refine wp_cV2 (z := mX6_extreme) (n' := 243) kX6_134 dX6_ofGauge_61 (Nat.le_of_ble_eq_true rfl) (Nat.le_of_ble_eq_true rfl) tA_235 (Nat.le_of_ble_eq_true rfl) (Nat.le_of_ble_eq_true rfl) (Nat.le_refl _) (Nat.le_refl _) (s_X6_extreme hs hM (by omega) hm60 e_m (wp_af ?_))
      exact wp_iret dX6_ofGauge_64 rfl rfl rfl (by first | exact hK | (simp at hK; exact hK) | ((repeat' split at hK) <;> first | exact hK | contradiction | (exfalso; simp_all; done)))
    refine wp_sw (fun h11_4 => ?_) (fun h11_4 => ?_)
    · subst h11_4
      refine wp_aload_n dX6_ofGauge_65 rfl ?_
      refine wp_iload_n dX6_ofGauge_66 rfl ?_
      refine wp_cV1 (z := mX6_risings) (n' := 243) kX6_138 dX6_ofGauge_67 (Nat.le_of_ble_eq_true rfl) (Nat.le_of_ble_eq_true rfl) tA_235 (Nat.le_of_ble_eq_true rfl) (Nat.le_of_ble_eq_true rfl) (Nat.le_refl _) (Nat.le_refl _) (s_X6_risings hs hM (by omega) hm60 e_m (wp_af ?_))
      exact wp_iret dX6_ofGauge_70 rfl rfl rfl (by first | exact hK | (simp at hK; exact hK) | ((repeat' split at hK) <;> first | exact hK | contradiction | (exfalso; simp_all; done)))
    refine wp_sw0 ?_
    refine wp_bipush (v := (-2)) dX6_ofGauge_71 (by decide) ?_
    exact wp_iret dX6_ofGauge_73 rfl rfl rfl (by first | exact hK | (simp at hK; exact hK) | ((repeat' split at hK) <;> first | exact hK | contradiction | (exfalso; simp_all; done)))
  · refine wp_iconst (v := (-1)) dX6_ofGauge_8 (by decide) ?_
    exact wp_iret dX6_ofGauge_9 rfl rfl rfl (hE h5)

set_option maxRecDepth 100000 in
set_option maxHeartbeats 4000000 in
theorem s_X6_noted {γ : Gm} {l : Launch} {M : Mm} {R : Rm} {K : KT} {ng : Nat} {c w : Int32} {sg : Nat → Int32} (hs : M 236 = sg) (hM : RM R) (hn : sg 5 = nI ng) (hm : ng ≤ 4) (hp : GgS sg ng) (hE1 : ¬ (0 ≤ c ∧ c < nI ng) → K (some (.int (-1))) 243 M R) (hE2 : ∀ k m, k < ng → m ≤ 60 → c = nI k → sg (122 + 62 * k + 1) = nI m → ¬ (0 ≤ w ∧ w < nI m) → K (some (.int (-1))) 243 M R) (hK : ∀ k m j, k < ng → m ≤ 60 → c = nI k → sg (122 + 62 * k + 1) = nI m → j < m → w = nI j → K (some (.int (sg (122 + 62 * k + (2 + m - 1 - j)) + 10000))) 243 M R) : CL γ l mX6_noted 2 243 243 [.ref 235, .int c, .int w] M R K := by
  show WP γ l mX6_noted 2 243 243 0 [some (.ref 235), some (.int c), some (.int w)] [] 243 M R K
  refine wp_aload_n dX6_noted_0 rfl ?_
  refine wp_iload_n dX6_noted_1 rfl ?_
  refine wp_cV1 (z := mX6_isGauge) (n' := 243) kX6_131 dX6_noted_2 (Nat.le_of_ble_eq_true rfl) (Nat.le_of_ble_eq_true rfl) tA_235 (Nat.le_of_ble_eq_true rfl) (Nat.le_of_ble_eq_true rfl) (Nat.le_refl _) (Nat.le_refl _) (s_X6_isGauge hs hM hn (by omega) (wp_af ?_))
  refine wp_bq_eq (tgt := 24) dX6_noted_5 (by decide) (fun h5 => ?_) (fun h5 => ?_)
  · refine wp_iconst (v := (-1)) dX6_noted_24 (by decide) ?_
    exact wp_iret dX6_noted_25 rfl rfl rfl (by first | exact hE1 h5 | exact hE2 k m hk hm60 rfl e_m (fun q => h21 ((lt_pred (by omega)).mpr q)))
  · obtain ⟨k, hk, e_c⟩ := rank_in (by omega) h5
    subst e_c
    obtain ⟨-, m, hm60, e_m⟩ := hp k hk
    refine wp_iload_n dX6_noted_8 rfl ?_
    refine wp_iconst (v := 0) dX6_noted_9 (by decide) ?_
    refine wp_aload_n dX6_noted_10 rfl ?_
    refine wp_iload_n dX6_noted_11 rfl ?_
    refine wp_iconst (v := 1) dX6_noted_12 (by decide) ?_
    refine wp_cV2 (z := mX6_gaugePart) (n' := 243) kX6_128 dX6_noted_13 (Nat.le_of_ble_eq_true rfl) (Nat.le_of_ble_eq_true rfl) tA_235 (Nat.le_of_ble_eq_true rfl) (Nat.le_of_ble_eq_true rfl) (Nat.le_refl _) (Nat.le_refl _) (s_X6_gaugePart hs (k := k) (j := 1) hM (by omega) (by omega) (wp_af ?_))
    refine wp_top (e_m) ?_
    refine wp_iconst (v := 1) dX6_noted_16 (by decide) ?_
    refine wp_isub dX6_noted_17 ?_
    refine wp_top (z := nI m - 1) rfl ?_
    refine wp_cS3 (z := mX6_within) (n' := 243) kX6_39 dX6_noted_18 (Nat.le_of_ble_eq_true rfl) (Nat.le_of_ble_eq_true rfl) (Nat.le_of_ble_eq_true rfl) (Nat.le_refl _) (Nat.le_refl _) (s_X6_within (wp_af ?_))
    refine wp_bq_ne (tgt := 26) dX6_noted_21 (by decide) (fun h21 => ?_) (fun h21 => ?_)
    · obtain ⟨j, hj, e_w⟩ := rank_in (by omega) ((lt_pred (by omega)).mp h21)
      subst e_w
      refine wp_aload_n dX6_noted_26 rfl ?_
      refine wp_iload_n dX6_noted_27 rfl ?_
      refine wp_iconst (v := 2) dX6_noted_28 (by decide) ?_
      refine wp_aload_n dX6_noted_29 rfl ?_
      refine wp_iload_n dX6_noted_30 rfl ?_
      refine wp_iconst (v := 1) dX6_noted_31 (by decide) ?_
      refine wp_cV2 (z := mX6_gaugePart) (n' := 243) kX6_128 dX6_noted_32 (Nat.le_of_ble_eq_true rfl) (Nat.le_of_ble_eq_true rfl) tA_235 (Nat.le_of_ble_eq_true rfl) (Nat.le_of_ble_eq_true rfl) (Nat.le_refl _) (Nat.le_refl _) (s_X6_gaugePart hs (k := k) (j := 1) hM (by omega) (by omega) (wp_af ?_))
      refine wp_top (e_m) ?_
      refine wp_iadd dX6_noted_35 ?_
      refine wp_iconst (v := 1) dX6_noted_36 (by decide) ?_
      refine wp_isub dX6_noted_37 ?_
      refine wp_iload_n dX6_noted_38 rfl ?_
      refine wp_isub dX6_noted_39 ?_
      refine wp_top (z := nI (((2 + m) - 1) - j)) (ix_sub (a := ((2 + m) - 1)) (b := j) (ix_sub (a := (2 + m)) (b := 1) (ix_add rfl rfl) rfl (by omega)) rfl (by omega)) ?_
      refine wp_cV2 (z := mX6_gaugePart) (n' := 243) kX6_128 dX6_noted_40 (Nat.le_of_ble_eq_true rfl) (Nat.le_of_ble_eq_true rfl) tA_235 (Nat.le_of_ble_eq_true rfl) (Nat.le_of_ble_eq_true rfl) (Nat.le_refl _) (Nat.le_refl _) (s_X6_gaugePart hs (k := k) (j := (((2 + m) - 1) - j)) hM (by omega) (by omega) (wp_af ?_))
      refine wp_sipush (v := 10000) dX6_noted_43 (by decide) ?_
      refine wp_iadd dX6_noted_46 ?_
      exact wp_iret dX6_noted_47 rfl rfl rfl (hK k m j hk hm60 rfl e_m hj rfl)
    · refine wp_iconst (v := (-1)) dX6_noted_24 (by decide) ?_
      exact wp_iret dX6_noted_25 rfl rfl rfl (by first | exact hE1 h5 | exact hE2 k m hk hm60 rfl e_m (fun q => h21 ((lt_pred (by omega)).mpr q)))

