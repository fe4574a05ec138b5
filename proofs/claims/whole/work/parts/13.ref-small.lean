/-! THE REFERENCE: its small methods. sg, the row of its numbers: settings 0..2, steps 3, paddles 4, gauges 5, levels 6.., speeds 46.., paddles 86 + 6 k, gauges 122 + 62 g -/
set_option maxRecDepth 100000 in
set_option maxHeartbeats 4000000 in
theorem s_X6_within {γ : Gm} {l : Launch} {M : Mm} {R : Rm} {K : KT} {v low high : Int32} (hK : K (some (.int (b01 (low ≤ v ∧ v ≤ high)))) 243 M R) : CL γ l mX6_within 0 243 243 [.int v, .int low, .int high] M R K := by
  show WP γ l mX6_within 0 243 243 0 [some (.int v), some (.int low), some (.int high)] [] 243 M R K
  refine wp_iload_n dX6_within_0 rfl ?_
  refine wp_iload_n dX6_within_1 rfl ?_
  refine wp_icmp_lt (tgt := 14) dX6_within_2 (by decide) (fun h2 => ?_) (fun h2 => ?_)
  · refine wp_iconst (v := 0) dX6_within_14 (by decide) ?_
    exact wp_iret dX6_within_15 rfl rfl rfl (by unfold b01 at hK; split at hK <;> first | exact hK | (exfalso; simp only [Int32.lt_iff_toInt_lt, Int32.le_iff_toInt_le, ← Int32.toInt_inj] at *; omega))
  · refine wp_iload_n dX6_within_5 rfl ?_
    refine wp_iload_n dX6_within_6 rfl ?_
    refine wp_icmp_gt (tgt := 14) dX6_within_7 (by decide) (fun h7 => ?_) (fun h7 => ?_)
    · refine wp_iconst (v := 0) dX6_within_14 (by decide) ?_
      exact wp_iret dX6_within_15 rfl rfl rfl (by unfold b01 at hK; split at hK <;> first | exact hK | (exfalso; simp only [Int32.lt_iff_toInt_lt, Int32.le_iff_toInt_le, ← Int32.toInt_inj] at *; omega))
    · refine wp_iconst (v := 1) dX6_within_10 (by decide) ?_
      refine wp_goto (tgt := 15) dX6_within_11 (by decide) ?_
      exact wp_iret dX6_within_15 rfl rfl rfl (by unfold b01 at hK; split at hK <;> first | exact hK | (exfalso; simp only [Int32.lt_iff_toInt_lt, Int32.le_iff_toInt_le, ← Int32.toInt_inj] at *; omega))

def szI (v : Int32) : Int32 := if v < 0 then -v else v
def bnd (v : Int32) : Int32 := if v < -9999 then -9999 else if 9999 < v then 9999 else v
set_option maxRecDepth 100000 in
set_option maxHeartbeats 4000000 in
theorem s_X6_size {γ : Gm} {l : Launch} {M : Mm} {R : Rm} {K : KT} {v : Int32} (hK : K (some (.int (szI v))) 243 M R) : CL γ l mX6_size 0 243 243 [.int v] M R K := by
  show WP γ l mX6_size 0 243 243 0 [some (.int v)] [] 243 M R K
  refine wp_iload_n dX6_size_0 rfl ?_
  refine wp_if_ge (tgt := 9) dX6_size_1 (by decide) (fun h1 => ?_) (fun h1 => ?_)
  · refine wp_iload_n dX6_size_9 rfl ?_
    exact wp_iret dX6_size_10 rfl rfl rfl (by unfold szI at hK; (repeat' split at hK) <;> first | exact hK | (exfalso; simp only [Int32.lt_iff_toInt_lt, Int32.le_iff_toInt_le, ← Int32.toInt_inj] at *; omega))
  · refine wp_iload_n dX6_size_4 rfl ?_
    refine wp_ineg dX6_size_5 ?_
    refine wp_goto (tgt := 10) dX6_size_6 (by decide) ?_
    exact wp_iret dX6_size_10 rfl rfl rfl (by unfold szI at hK; (repeat' split at hK) <;> first | exact hK | (exfalso; simp only [Int32.lt_iff_toInt_lt, Int32.le_iff_toInt_le, ← Int32.toInt_inj] at *; omega))

set_option maxRecDepth 100000 in
set_option maxHeartbeats 4000000 in
theorem s_X6_bounded {γ : Gm} {l : Launch} {M : Mm} {R : Rm} {K : KT} {v : Int32} (hK : K (some (.int (bnd v))) 243 M R) : CL γ l mX6_bounded 0 243 243 [.int v] M R K := by
  show WP γ l mX6_bounded 0 243 243 0 [some (.int v)] [] 243 M R K
  refine wp_iload_n dX6_bounded_0 rfl ?_
  refine wp_sipush (v := (-9999)) dX6_bounded_1 (by decide) ?_
  refine wp_icmp_ge (tgt := 13) dX6_bounded_4 (by decide) (fun h4 => ?_) (fun h4 => ?_)
  · refine wp_iload_n dX6_bounded_13 rfl ?_
    refine wp_sipush (v := 9999) dX6_bounded_14 (by decide) ?_
    refine wp_icmp_le (tgt := 26) dX6_bounded_17 (by decide) (fun h17 => ?_) (fun h17 => ?_)
    · refine wp_iload_n dX6_bounded_26 rfl ?_
      exact wp_iret dX6_bounded_27 rfl rfl rfl (by unfold bnd at hK; (repeat' split at hK) <;> first | exact hK | (exfalso; simp only [Int32.lt_iff_toInt_lt, Int32.le_iff_toInt_le, ← Int32.toInt_inj] at *; omega))
    · refine wp_sipush (v := 9999) dX6_bounded_20 (by decide) ?_
      refine wp_goto (tgt := 27) dX6_bounded_23 (by decide) ?_
      exact wp_iret dX6_bounded_27 rfl rfl rfl (by unfold bnd at hK; (repeat' split at hK) <;> first | exact hK | (exfalso; simp only [Int32.lt_iff_toInt_lt, Int32.le_iff_toInt_le, ← Int32.toInt_inj] at *; omega))
  · refine wp_sipush (v := (-9999)) dX6_bounded_7 (by decide) ?_
    refine wp_goto (tgt := 27) dX6_bounded_10 (by decide) ?_
    exact wp_iret dX6_bounded_27 rfl rfl rfl (by unfold bnd at hK; (repeat' split at hK) <;> first | exact hK | (exfalso; simp only [Int32.lt_iff_toInt_lt, Int32.le_iff_toInt_le, ← Int32.toInt_inj] at *; omega))

set_option maxRecDepth 100000 in
set_option maxHeartbeats 4000000 in
theorem s_X6_isCell {γ : Gm} {l : Launch} {M : Mm} {R : Rm} {K : KT} {v : Int32} (hK : K (some (.int (b01 (0 ≤ v ∧ v ≤ 39)))) 243 M R) : CL γ l mX6_isCell 1 243 243 [.int v] M R K := by
  show WP γ l mX6_isCell 1 243 243 0 [some (.int v)] [] 243 M R K
  refine wp_iload_n dX6_isCell_0 rfl ?_
  refine wp_iconst (v := 0) dX6_isCell_1 (by decide) ?_
  refine wp_bipush (v := 39) dX6_isCell_2 (by decide) ?_
  refine wp_cS3 (z := mX6_within) (n' := 243) kX6_39 dX6_isCell_4 (Nat.le_of_ble_eq_true rfl) (Nat.le_of_ble_eq_true rfl) (Nat.le_of_ble_eq_true rfl) (Nat.le_refl _) (Nat.le_refl _) (s_X6_within (wp_af ?_))
  exact wp_iret dX6_isCell_7 rfl b01_n rfl (hK)

set_option maxRecDepth 100000 in
set_option maxHeartbeats 4000000 in
theorem s_X6_levelOf {γ : Gm} {l : Launch} {M : Mm} {R : Rm} {K : KT} {c : Nat} {sg : Nat → Int32} (hs : M 236 = sg) (hM : RM R) (hc : c < 40) (hK : K (some (.int (sg (6 + c)))) 243 M R) : CL γ l mX6_levelOf 0 243 243 [.ref 235, .int (nI c)] M R K := by
  show WP γ l mX6_levelOf 0 243 243 0 [some (.ref 235), some (.int (nI c))] [] 243 M R K
  refine wp_aload_n dX6_levelOf_0 rfl ?_
  refine wp_getQ fX6_7 tA_235 rfl hM.f0 (by decide) (Nat.le_of_ble_eq_true rfl) dX6_levelOf_1 ?_
  refine wp_bipush (v := 6) dX6_levelOf_4 (by decide) ?_
  refine wp_iload_n dX6_levelOf_6 rfl ?_
  refine wp_iadd dX6_levelOf_7 ?_
  refine wp_iadn (i := (6 + c)) (ix_add rfl rfl) tA_236 (Nat.le_of_ble_eq_true rfl) (by rw [lA_236]; omega) (Nat.le_of_ble_eq_true rfl) dX6_levelOf_8 (congrFun hs _) ?_
  exact wp_iret dX6_levelOf_9 rfl rfl rfl (hK)

set_option maxRecDepth 100000 in
set_option maxHeartbeats 4000000 in
theorem s_X6_paddlePart {γ : Gm} {l : Launch} {M : Mm} {R : Rm} {K : KT} {k j : Nat} {sg : Nat → Int32} (hs : M 236 = sg) (hM : RM R) (hk : k < 6) (hj : j < 6) (hK : K (some (.int (sg (86 + 6 * k + j)))) 243 M R) : CL γ l mX6_paddlePart 0 243 243 [.ref 235, .int (nI k), .int (nI j)] M R K := by
  show WP γ l mX6_paddlePart 0 243 243 0 [some (.ref 235), some (.int (nI k)), some (.int (nI j))] [] 243 M R K
  refine wp_aload_n dX6_paddlePart_0 rfl ?_
  refine wp_getQ fX6_7 tA_235 rfl hM.f0 (by decide) (Nat.le_of_ble_eq_true rfl) dX6_paddlePart_1 ?_
  refine wp_bipush (v := 86) dX6_paddlePart_4 (by decide) ?_
  refine wp_bipush (v := 6) dX6_paddlePart_6 (by decide) ?_
  refine wp_iload_n dX6_paddlePart_8 rfl ?_
  refine wp_imul dX6_paddlePart_9 ?_
  refine wp_iadd dX6_paddlePart_10 ?_
  refine wp_iload_n dX6_paddlePart_11 rfl ?_
  refine wp_iadd dX6_paddlePart_12 ?_
  refine wp_iadn (i := ((86 + (6 * k)) + j)) (ix_add (ix_add rfl (ix_mul rfl rfl)) rfl) tA_236 (Nat.le_of_ble_eq_true rfl) (by rw [lA_236]; omega) (Nat.le_of_ble_eq_true rfl) dX6_paddlePart_13 (congrFun hs _) ?_
  exact wp_iret dX6_paddlePart_14 rfl rfl rfl (hK)

set_option maxRecDepth 100000 in
set_option maxHeartbeats 4000000 in
theorem s_X6_gaugePart {γ : Gm} {l : Launch} {M : Mm} {R : Rm} {K : KT} {k j : Nat} {sg : Nat → Int32} (hs : M 236 = sg) (hM : RM R) (hk : k < 4) (hj : j < 62) (hK : K (some (.int (sg (122 + 62 * k + j)))) 243 M R) : CL γ l mX6_gaugePart 0 243 243 [.ref 235, .int (nI k), .int (nI j)] M R K := by
  show WP γ l mX6_gaugePart 0 243 243 0 [some (.ref 235), some (.int (nI k)), some (.int (nI j))] [] 243 M R K
  refine wp_aload_n dX6_gaugePart_0 rfl ?_
  refine wp_getQ fX6_7 tA_235 rfl hM.f0 (by decide) (Nat.le_of_ble_eq_true rfl) dX6_gaugePart_1 ?_
  refine wp_bipush (v := 122) dX6_gaugePart_4 (by decide) ?_
  refine wp_bipush (v := 62) dX6_gaugePart_6 (by decide) ?_
  refine wp_iload_n dX6_gaugePart_8 rfl ?_
  refine wp_imul dX6_gaugePart_9 ?_
  refine wp_iadd dX6_gaugePart_10 ?_
  refine wp_iload_n dX6_gaugePart_11 rfl ?_
  refine wp_iadd dX6_gaugePart_12 ?_
  refine wp_iadn (i := ((122 + (62 * k)) + j)) (ix_add (ix_add rfl (ix_mul rfl rfl)) rfl) tA_236 (Nat.le_of_ble_eq_true rfl) (by rw [lA_236]; omega) (Nat.le_of_ble_eq_true rfl) dX6_gaugePart_13 (congrFun hs _) ?_
  exact wp_iret dX6_gaugePart_14 rfl rfl rfl (hK)

set_option maxRecDepth 100000 in
set_option maxHeartbeats 4000000 in
theorem s_X6_setPaddle {γ : Gm} {l : Launch} {M : Mm} {R : Rm} {K : KT} {k j : Nat} {v : Int32} {sg : Nat → Int32} (hs : M 236 = sg) (hM : RM R) (hk : k < 6) (hj : j < 6) (hK : K none 243 (up M 236 (up sg (86 + 6 * k + j) v)) R) : CL γ l mX6_setPaddle 0 243 243 [.ref 235, .int (nI k), .int (nI j), .int v] M R K := by
  show WP γ l mX6_setPaddle 0 243 243 0 [some (.ref 235), some (.int (nI k)), some (.int (nI j)), some (.int v)] [] 243 M R K
  refine wp_aload_n dX6_setPaddle_0 rfl ?_
  refine wp_getQ fX6_7 tA_235 rfl hM.f0 (by decide) (Nat.le_of_ble_eq_true rfl) dX6_setPaddle_1 ?_
  refine wp_bipush (v := 86) dX6_setPaddle_4 (by decide) ?_
  refine wp_bipush (v := 6) dX6_setPaddle_6 (by decide) ?_
  refine wp_iload_n dX6_setPaddle_8 rfl ?_
  refine wp_imul dX6_setPaddle_9 ?_
  refine wp_iadd dX6_setPaddle_10 ?_
  refine wp_iload_n dX6_setPaddle_11 rfl ?_
  refine wp_iadd dX6_setPaddle_12 ?_
  refine wp_iload_n dX6_setPaddle_13 rfl ?_
  refine wp_iast (i := ((86 + (6 * k)) + j)) (ix_add (ix_add rfl (ix_mul rfl rfl)) rfl) tA_236 (Nat.le_of_ble_eq_true rfl) (by rw [lA_236]; omega) (Nat.le_of_ble_eq_true rfl) dX6_setPaddle_14 ?_
  exact wp_vret dX6_setPaddle_15 rfl rfl (by rw [u2_eq, hs]; exact hK)

/-- the paddle in a cell, by its rank, among the first m of them: the last one; -6 if there is none -/
def rkU (sg : Nat → Int32) (c : Int32) : Nat → Int32
  | 0 => -6
  | m + 1 => if sg (86 + 6 * m) = c then nI m else rkU sg c m
set_option maxRecDepth 100000 in
set_option maxHeartbeats 4000000 in
theorem s_X6_rankIn {γ : Gm} {l : Launch} {M : Mm} {R : Rm} {K : KT} {c : Int32} {np : Nat} {sg : Nat → Int32} (hs : M 236 = sg) (hM : RM R) (hn : sg 4 = nI np) (hp : np ≤ 6) (hK : K (some (.int (rkU sg c np))) 243 M R) : CL γ l mX6_rankIn 1 243 243 [.ref 235, .int c] M R K := by
  show WP γ l mX6_rankIn 1 243 243 0 [some (.ref 235), some (.int c), none, none] [] 243 M R K
  have loop : ∀ (f k : Nat), np - k < f → k ≤ np → WP γ l mX6_rankIn 1 243 243 5 [some (.ref 235), some (.int c), some (.int (rkU sg c k)), some (.int (nI k))] [] 243 M R K := by
    intro f
    induction f with
    | zero => intro k h; omega
    | succ f ih =>
      intro k hf hk
      refine wp_iload_n dX6_rankIn_5 rfl ?_
      refine wp_aload_n dX6_rankIn_6 rfl ?_
      refine wp_getQ fX6_7 tA_235 rfl hM.f0 (by decide) (Nat.le_of_ble_eq_true rfl) dX6_rankIn_7 ?_
      refine wp_iconst (v := 4) dX6_rankIn_10 (by decide) ?_
      refine wp_iadn (i := 4) rfl tA_236 (Nat.le_of_ble_eq_true rfl) (by rw [lA_236]; omega) (Nat.le_of_ble_eq_true rfl) dX6_rankIn_11 ((congrFun hs _).trans (hn)) ?_
      refine wp_icN_ge (a := k) (b := np) (tgt := 37) dX6_rankIn_12 (by decide) rfl rfl (by omega) (by omega) (fun h12 => ?_) (fun h12 => ?_)
      · refine wp_iload_n dX6_rankIn_37 rfl ?_
        exact wp_iret dX6_rankIn_38 rfl rfl rfl ((show k = np by omega) ▸ hK)
      · refine wp_aload_n dX6_rankIn_15 rfl ?_
        refine wp_iload_n dX6_rankIn_16 rfl ?_
        refine wp_iconst (v := 0) dX6_rankIn_17 (by decide) ?_
        refine wp_cV2 (z := mX6_paddlePart) (n' := 243) kX6_43 dX6_rankIn_18 (Nat.le_of_ble_eq_true rfl) (Nat.le_of_ble_eq_true rfl) tA_235 (Nat.le_of_ble_eq_true rfl) (Nat.le_of_ble_eq_true rfl) (Nat.le_refl _) (Nat.le_refl _) (s_X6_paddlePart hs (k := k) (j := 0) hM (by omega) (by omega) (wp_af ?_))
        refine wp_iload_n dX6_rankIn_21 rfl ?_
        refine wp_icmp_ne (tgt := 29) dX6_rankIn_22 (by decide) (fun h22 => ?_) (fun h22 => ?_)
        · refine wp_iload_n dX6_rankIn_29 rfl ?_
          refine wp_istore_n (L' := [_, _, _, _]) dX6_rankIn_30 (by decide) rfl ?_
          refine wp_iinc (v := nI (k + 1)) (L' := [_, _, _, _]) dX6_rankIn_31 (by decide) rfl (inc_1 _) rfl ?_
          refine wp_goto (tgt := 5) dX6_rankIn_34 (by decide) ?_
          have e : rkU sg c (k + 1) = if sg (86 + 6 * k) = c then nI k else rkU sg c k := rfl
          have g := ih (k + 1) (by omega) (by omega)
          rw [e] at g
          first | (rw [if_pos (by assumption)] at g; exact g) | (rw [if_neg (by assumption)] at g; exact g)
        · refine wp_iload_n dX6_rankIn_25 rfl ?_
          refine wp_goto (tgt := 30) dX6_rankIn_26 (by decide) ?_
          refine wp_istore_n (L' := [_, _, _, _]) dX6_rankIn_30 (by decide) rfl ?_
          refine wp_iinc (v := nI (k + 1)) (L' := [_, _, _, _]) dX6_rankIn_31 (by decide) rfl (inc_1 _) rfl ?_
          refine wp_goto (tgt := 5) dX6_rankIn_34 (by decide) ?_
          have e : rkU sg c (k + 1) = if sg (86 + 6 * k) = c then nI k else rkU sg c k := rfl
          have g := ih (k + 1) (by omega) (by omega)
          rw [e] at g
          first | (rw [if_pos (by assumption)] at g; exact g) | (rw [if_neg (by assumption)] at g; exact g)
  refine wp_bipush (v := (-6)) dX6_rankIn_0 (by decide) ?_
  refine wp_istore_n (L' := [_, _, _, _]) dX6_rankIn_2 (by decide) rfl ?_
  refine wp_iconst (v := 0) dX6_rankIn_3 (by decide) ?_
  refine wp_istore_n (L' := [_, _, _, _]) dX6_rankIn_4 (by decide) rfl ?_
  exact loop (np + 1) 0 (by omega) (by omega)

def crest (sg : Nat → Int32) (c : Nat) : Int32 := if (0 < c ∧ c < 39) ∧ sg (6 + (c - 1)) < sg (6 + c) ∧ sg (6 + (c + 1)) < sg (6 + c) then 1 else 0
def trough (sg : Nat → Int32) (c : Nat) : Int32 := if (0 < c ∧ c < 39) ∧ sg (6 + c) < sg (6 + (c - 1)) ∧ sg (6 + c) < sg (6 + (c + 1)) then 1 else 0
set_option maxRecDepth 100000 in
set_option maxHeartbeats 4000000 in
theorem s_X6_isCrest {γ : Gm} {l : Launch} {M : Mm} {R : Rm} {K : KT} {c : Nat} {sg : Nat → Int32} (hs : M 236 = sg) (hM : RM R) (hc : c < 40) (hK : K (some (.int (crest sg c))) 243 M R) : CL γ l mX6_isCrest 1 243 243 [.ref 235, .int (nI c)] M R K := by
  show WP γ l mX6_isCrest 1 243 243 0 [some (.ref 235), some (.int (nI c))] [] 243 M R K
  refine wp_iload_n dX6_isCrest_0 rfl ?_
  refine wp_ifN_le (a := c) (tgt := 44) dX6_isCrest_1 (by decide) rfl (by omega) (fun h1 => ?_) (fun h1 => ?_)
  · refine wp_iconst (v := 0) dX6_isCrest_44 (by decide) ?_
    exact wp_iret dX6_isCrest_45 rfl rfl rfl (by unfold crest at hK; (repeat' split at hK) <;> first | exact hK | (exfalso; simp only [Int32.lt_iff_toInt_lt, Int32.le_iff_toInt_le, ← Int32.toInt_inj] at *; omega))
  · refine wp_iload_n dX6_isCrest_4 rfl ?_
    refine wp_bipush (v := 39) dX6_isCrest_5 (by decide) ?_
    refine wp_icN_ge (a := c) (b := 39) (tgt := 44) dX6_isCrest_7 (by decide) rfl rfl (by omega) (by omega) (fun h7 => ?_) (fun h7 => ?_)
    · refine wp_iconst (v := 0) dX6_isCrest_44 (by decide) ?_
      exact wp_iret dX6_isCrest_45 rfl rfl rfl (by unfold crest at hK; (repeat' split at hK) <;> first | exact hK | (exfalso; simp only [Int32.lt_iff_toInt_lt, Int32.le_iff_toInt_le, ← Int32.toInt_inj] at *; omega))
    · refine wp_aload_n dX6_isCrest_10 rfl ?_
      refine wp_iload_n dX6_isCrest_11 rfl ?_
      refine wp_cV1 (z := mX6_levelOf) (n' := 243) kX6_47 dX6_isCrest_12 (Nat.le_of_ble_eq_true rfl) (Nat.le_of_ble_eq_true rfl) tA_235 (Nat.le_of_ble_eq_true rfl) (Nat.le_of_ble_eq_true rfl) (Nat.le_refl _) (Nat.le_refl _) (s_X6_levelOf hs (c := c) hM (by omega) (wp_af ?_))
      refine wp_aload_n dX6_isCrest_15 rfl ?_
      refine wp_iload_n dX6_isCrest_16 rfl ?_
      refine wp_iconst (v := 1) dX6_isCrest_17 (by decide) ?_
      refine wp_isub dX6_isCrest_18 ?_
      refine wp_top (z := nI (c - 1)) (ix_sub rfl rfl (by omega)) ?_
      refine wp_cV1 (z := mX6_levelOf) (n' := 243) kX6_47 dX6_isCrest_19 (Nat.le_of_ble_eq_true rfl) (Nat.le_of_ble_eq_true rfl) tA_235 (Nat.le_of_ble_eq_true rfl) (Nat.le_of_ble_eq_true rfl) (Nat.le_refl _) (Nat.le_refl _) (s_X6_levelOf hs (c := (c - 1)) hM (by omega) (wp_af ?_))
      refine wp_icmp_le (tgt := 44) dX6_isCrest_22 (by decide) (fun h22 => ?_) (fun h22 => ?_)
      · refine wp_iconst (v := 0) dX6_isCrest_44 (by decide) ?_
        exact wp_iret dX6_isCrest_45 rfl rfl rfl (by unfold crest at hK; (repeat' split at hK) <;> first | exact hK | (exfalso; simp only [Int32.lt_iff_toInt_lt, Int32.le_iff_toInt_le, ← Int32.toInt_inj] at *; omega))
      · refine wp_aload_n dX6_isCrest_25 rfl ?_
        refine wp_iload_n dX6_isCrest_26 rfl ?_
        refine wp_cV1 (z := mX6_levelOf) (n' := 243) kX6_47 dX6_isCrest_27 (Nat.le_of_ble_eq_true rfl) (Nat.le_of_ble_eq_true rfl) tA_235 (Nat.le_of_ble_eq_true rfl) (Nat.le_of_ble_eq_true rfl) (Nat.le_refl _) (Nat.le_refl _) (s_X6_levelOf hs (c := c) hM (by omega) (wp_af ?_))
        refine wp_aload_n dX6_isCrest_30 rfl ?_
        refine wp_iload_n dX6_isCrest_31 rfl ?_
        refine wp_iconst (v := 1) dX6_isCrest_32 (by decide) ?_
        refine wp_iadd dX6_isCrest_33 ?_
        refine wp_top (z := nI (c + 1)) (ix_add rfl rfl) ?_
        refine wp_cV1 (z := mX6_levelOf) (n' := 243) kX6_47 dX6_isCrest_34 (Nat.le_of_ble_eq_true rfl) (Nat.le_of_ble_eq_true rfl) tA_235 (Nat.le_of_ble_eq_true rfl) (Nat.le_of_ble_eq_true rfl) (Nat.le_refl _) (Nat.le_refl _) (s_X6_levelOf hs (c := (c + 1)) hM (by omega) (wp_af ?_))
        refine wp_icmp_le (tgt := 44) dX6_isCrest_37 (by decide) (fun h37 => ?_) (fun h37 => ?_)
        · refine wp_iconst (v := 0) dX6_isCrest_44 (by decide) ?_
          exact wp_iret dX6_isCrest_45 rfl rfl rfl (by unfold crest at hK; (repeat' split at hK) <;> first | exact hK | (exfalso; simp only [Int32.lt_iff_toInt_lt, Int32.le_iff_toInt_le, ← Int32.toInt_inj] at *; omega))
        · refine wp_iconst (v := 1) dX6_isCrest_40 (by decide) ?_
          refine wp_goto (tgt := 45) dX6_isCrest_41 (by decide) ?_
          exact wp_iret dX6_isCrest_45 rfl rfl rfl (by unfold crest at hK; (repeat' split at hK) <;> first | exact hK | (exfalso; simp only [Int32.lt_iff_toInt_lt, Int32.le_iff_toInt_le, ← Int32.toInt_inj] at *; omega))

set_option maxRecDepth 100000 in
set_option maxHeartbeats 4000000 in
theorem s_X6_isTrough {γ : Gm} {l : Launch} {M : Mm} {R : Rm} {K : KT} {c : Nat} {sg : Nat → Int32} (hs : M 236 = sg) (hM : RM R) (hc : c < 40) (hK : K (some (.int (trough sg c))) 243 M R) : CL γ l mX6_isTrough 1 243 243 [.ref 235, .int (nI c)] M R K := by
  show WP γ l mX6_isTrough 1 243 243 0 [some (.ref 235), some (.int (nI c))] [] 243 M R K
  refine wp_iload_n dX6_isTrough_0 rfl ?_
  refine wp_ifN_le (a := c) (tgt := 44) dX6_isTrough_1 (by decide) rfl (by omega) (fun h1 => ?_) (fun h1 => ?_)
  · refine wp_iconst (v := 0) dX6_isTrough_44 (by decide) ?_
    exact wp_iret dX6_isTrough_45 rfl rfl rfl (by unfold trough at hK; (repeat' split at hK) <;> first | exact hK | (exfalso; simp only [Int32.lt_iff_toInt_lt, Int32.le_iff_toInt_le, ← Int32.toInt_inj] at *; omega))
  · refine wp_iload_n dX6_isTrough_4 rfl ?_
    refine wp_bipush (v := 39) dX6_isTrough_5 (by decide) ?_
    refine wp_icN_ge (a := c) (b := 39) (tgt := 44) dX6_isTrough_7 (by decide) rfl rfl (by omega) (by omega) (fun h7 => ?_) (fun h7 => ?_)
    · refine wp_iconst (v := 0) dX6_isTrough_44 (by decide) ?_
      exact wp_iret dX6_isTrough_45 rfl rfl rfl (by unfold trough at hK; (repeat' split at hK) <;> first | exact hK | (exfalso; simp only [Int32.lt_iff_toInt_lt, Int32.le_iff_toInt_le, ← Int32.toInt_inj] at *; omega))
    · refine wp_aload_n dX6_isTrough_10 rfl ?_
      refine wp_iload_n dX6_isTrough_11 rfl ?_
      refine wp_cV1 (z := mX6_levelOf) (n' := 243) kX6_47 dX6_isTrough_12 (Nat.le_of_ble_eq_true rfl) (Nat.le_of_ble_eq_true rfl) tA_235 (Nat.le_of_ble_eq_true rfl) (Nat.le_of_ble_eq_true rfl) (Nat.le_refl _) (Nat.le_refl _) (s_X6_levelOf hs (c := c) hM (by omega) (wp_af ?_))
      refine wp_aload_n dX6_isTrough_15 rfl ?_
      refine wp_iload_n dX6_isTrough_16 rfl ?_
      refine wp_iconst (v := 1) dX6_isTrough_17 (by decide) ?_
      refine wp_isub dX6_isTrough_18 ?_
      refine wp_top (z := nI (c - 1)) (ix_sub rfl rfl (by omega)) ?_
      refine wp_cV1 (z := mX6_levelOf) (n' := 243) kX6_47 dX6_isTrough_19 (Nat.le_of_ble_eq_true rfl) (Nat.le_of_ble_eq_true rfl) tA_235 (Nat.le_of_ble_eq_true rfl) (Nat.le_of_ble_eq_true rfl) (Nat.le_refl _) (Nat.le_refl _) (s_X6_levelOf hs (c := (c - 1)) hM (by omega) (wp_af ?_))
      refine wp_icmp_ge (tgt := 44) dX6_isTrough_22 (by decide) (fun h22 => ?_) (fun h22 => ?_)
      · refine wp_iconst (v := 0) dX6_isTrough_44 (by decide) ?_
        exact wp_iret dX6_isTrough_45 rfl rfl rfl (by unfold trough at hK; (repeat' split at hK) <;> first | exact hK | (exfalso; simp only [Int32.lt_iff_toInt_lt, Int32.le_iff_toInt_le, ← Int32.toInt_inj] at *; omega))
      · refine wp_aload_n dX6_isTrough_25 rfl ?_
        refine wp_iload_n dX6_isTrough_26 rfl ?_
        refine wp_cV1 (z := mX6_levelOf) (n' := 243) kX6_47 dX6_isTrough_27 (Nat.le_of_ble_eq_true rfl) (Nat.le_of_ble_eq_true rfl) tA_235 (Nat.le_of_ble_eq_true rfl) (Nat.le_of_ble_eq_true rfl) (Nat.le_refl _) (Nat.le_refl _) (s_X6_levelOf hs (c := c) hM (by omega) (wp_af ?_))
        refine wp_aload_n dX6_isTrough_30 rfl ?_
        refine wp_iload_n dX6_isTrough_31 rfl ?_
        refine wp_iconst (v := 1) dX6_isTrough_32 (by decide) ?_
        refine wp_iadd dX6_isTrough_33 ?_
        refine wp_top (z := nI (c + 1)) (ix_add rfl rfl) ?_
        refine wp_cV1 (z := mX6_levelOf) (n' := 243) kX6_47 dX6_isTrough_34 (Nat.le_of_ble_eq_true rfl) (Nat.le_of_ble_eq_true rfl) tA_235 (Nat.le_of_ble_eq_true rfl) (Nat.le_of_ble_eq_true rfl) (Nat.le_refl _) (Nat.le_refl _) (s_X6_levelOf hs (c := (c + 1)) hM (by omega) (wp_af ?_))
        refine wp_icmp_ge (tgt := 44) dX6_isTrough_37 (by decide) (fun h37 => ?_) (fun h37 => ?_)
        · refine wp_iconst (v := 0) dX6_isTrough_44 (by decide) ?_
          exact wp_iret dX6_isTrough_45 rfl rfl rfl (by unfold trough at hK; (repeat' split at hK) <;> first | exact hK | (exfalso; simp only [Int32.lt_iff_toInt_lt, Int32.le_iff_toInt_le, ← Int32.toInt_inj] at *; omega))
        · refine wp_iconst (v := 1) dX6_isTrough_40 (by decide) ?_
          refine wp_goto (tgt := 45) dX6_isTrough_41 (by decide) ?_
          exact wp_iret dX6_isTrough_45 rfl rfl rfl (by unfold trough at hK; (repeat' split at hK) <;> first | exact hK | (exfalso; simp only [Int32.lt_iff_toInt_lt, Int32.le_iff_toInt_le, ← Int32.toInt_inj] at *; omega))

