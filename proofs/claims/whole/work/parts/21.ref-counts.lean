/-! THE REFERENCE: places and counts -/
def plcV (sg : Nat → Int32) (np c : Nat) (w : Int32) : Int32 := if w = 0 then crest sg c else if w = 1 then trough sg c else if w = 2 then (if sg (6 + c) = 0 then 0 else 1) else if w = 3 then (if rkU sg (nI c) np = -6 then 0 else 1) else (if rkU sg (nI c) np = -6 then 0 else if sg (86 + 6 * (rkU sg (nI c) np).toNatClampNeg + 5) = 0 then 1 else 0)
theorem plcV_01 (sg : Nat → Int32) (np c : Nat) (w : Int32) : plcV sg np c w = 0 ∨ plcV sg np c w = 1 := by
  unfold plcV crest trough
  split
  · split <;> simp
  · split
    · split <;> simp
    · split
      · split <;> simp
      · split
        · split <;> simp
        · split
          · simp
          · split <;> simp
theorem nar01 {v : Int32} (h : v = 0 ∨ v = 1) : narrow .boolean (.int v) = .int v := by
  rcases h with rfl | rfl <;> rfl
def plcM (sg : Nat → Int32) (np : Nat) (w : Int32) : Nat → Int64
  | 0 => 0
  | c + 1 => plcM sg np w c ||| (if plcV sg np c w = 0 then (0 : Int64) else ((1 : Int64) <<< ((nI c).toInt64 &&& 63)))
theorem crest_01 (sg : Nat → Int32) (c : Nat) : crest sg c = 0 ∨ crest sg c = 1 := by
  unfold crest
  split <;> simp
theorem trough_01 (sg : Nat → Int32) (c : Nat) : trough sg c = 0 ∨ trough sg c = 1 := by
  unfold trough
  split <;> simp
set_option maxRecDepth 100000 in
set_option maxHeartbeats 4000000 in
theorem s_X6_isPlace {γ : Gm} {l : Launch} {M : Mm} {R : Rm} {K : KT} {c np : Nat} {w : Int32} {sg : Nat → Int32} (hs : M 236 = sg) (hM : RM R) (hn : sg 4 = nI np) (hp : np ≤ 6) (hc : c < 40) (hK : K (some (.int (plcV sg np c w))) 243 M R) : CL γ l mX6_isPlace 2 243 243 [.ref 235, .int (nI c), .int w] M R K := by
  show WP γ l mX6_isPlace 2 243 243 0 [some (.ref 235), some (.int (nI c)), some (.int w), none] [] 243 M R K
  unfold plcV at hK
  refine wp_aload_n dX6_isPlace_0 rfl ?_
  refine wp_iload_n dX6_isPlace_1 rfl ?_
  refine wp_cV1 (z := mX6_rankIn) (n' := 243) kX6_87 dX6_isPlace_2 (Nat.le_of_ble_eq_true rfl) (Nat.le_of_ble_eq_true rfl) tA_235 (Nat.le_of_ble_eq_true rfl) (Nat.le_of_ble_eq_true rfl) (Nat.le_refl _) (Nat.le_refl _) (s_X6_rankIn hs hM hn hp (wp_af ?_))
  refine wp_istore_n (L' := [some (.ref 235), some (.int (nI c)), some (.int w), some (.int _)]) dX6_isPlace_5 (by decide) rfl ?_
  refine wp_iload_n dX6_isPlace_6 rfl ?_
  refine wp_tswitch [(0, 36), (1, 42), (2, 48), (3, 62)] 74 dX6_isPlace_7 (by decide) (by decide) (by decide +kernel) ?_
  refine wp_sw (fun h7_0 => ?_) (fun h7_0 => ?_)
  · refine wp_aload_n dX6_isPlace_36 rfl ?_
    refine wp_iload_n dX6_isPlace_37 rfl ?_
    refine wp_cV1 (z := mX6_isCrest) (n' := 243) kX6_119 dX6_isPlace_38 (Nat.le_of_ble_eq_true rfl) (Nat.le_of_ble_eq_true rfl) tA_235 (Nat.le_of_ble_eq_true rfl) (Nat.le_of_ble_eq_true rfl) (Nat.le_refl _) (Nat.le_refl _) (s_X6_isCrest hs (c := c) hM hc (wp_af ?_))
    exact wp_iret dX6_isPlace_41 rfl (nar01 (crest_01 _ _)) rfl (by (repeat' split at hK) <;> first | exact hK | contradiction | (exfalso; simp_all; done))
  refine wp_sw (fun h7_1 => ?_) (fun h7_1 => ?_)
  · refine wp_aload_n dX6_isPlace_42 rfl ?_
    refine wp_iload_n dX6_isPlace_43 rfl ?_
    refine wp_cV1 (z := mX6_isTrough) (n' := 243) kX6_122 dX6_isPlace_44 (Nat.le_of_ble_eq_true rfl) (Nat.le_of_ble_eq_true rfl) tA_235 (Nat.le_of_ble_eq_true rfl) (Nat.le_of_ble_eq_true rfl) (Nat.le_refl _) (Nat.le_refl _) (s_X6_isTrough hs (c := c) hM hc (wp_af ?_))
    exact wp_iret dX6_isPlace_47 rfl (nar01 (trough_01 _ _)) rfl (by (repeat' split at hK) <;> first | exact hK | contradiction | (exfalso; simp_all; done))
  refine wp_sw (fun h7_2 => ?_) (fun h7_2 => ?_)
  · refine wp_aload_n dX6_isPlace_48 rfl ?_
    refine wp_iload_n dX6_isPlace_49 rfl ?_
    refine wp_cV1 (z := mX6_levelOf) (n' := 243) kX6_47 dX6_isPlace_50 (Nat.le_of_ble_eq_true rfl) (Nat.le_of_ble_eq_true rfl) tA_235 (Nat.le_of_ble_eq_true rfl) (Nat.le_of_ble_eq_true rfl) (Nat.le_refl _) (Nat.le_refl _) (s_X6_levelOf hs (c := c) hM (by omega) (wp_af ?_))
    refine wp_if_eq (tgt := 60) dX6_isPlace_53 (by decide) (fun h53 => ?_) (fun h53 => ?_)
    · refine wp_iconst (v := 0) dX6_isPlace_60 (by decide) ?_
      exact wp_iret dX6_isPlace_61 rfl rfl rfl (by (repeat' split at hK) <;> first | exact hK | contradiction | (exfalso; simp_all; done))
    · refine wp_iconst (v := 1) dX6_isPlace_56 (by decide) ?_
      refine wp_goto (tgt := 61) dX6_isPlace_57 (by decide) ?_
      exact wp_iret dX6_isPlace_61 rfl rfl rfl (by (repeat' split at hK) <;> first | exact hK | contradiction | (exfalso; simp_all; done))
  refine wp_sw (fun h7_3 => ?_) (fun h7_3 => ?_)
  · refine wp_iload_n dX6_isPlace_62 rfl ?_
    refine wp_bipush (v := (-6)) dX6_isPlace_63 (by decide) ?_
    refine wp_icmp_eq (tgt := 72) dX6_isPlace_65 (by decide) (fun h65 => ?_) (fun h65 => ?_)
    · refine wp_iconst (v := 0) dX6_isPlace_72 (by decide) ?_
      exact wp_iret dX6_isPlace_73 rfl rfl rfl (by (repeat' split at hK) <;> first | exact hK | contradiction | (exfalso; simp_all; done))
    · refine wp_iconst (v := 1) dX6_isPlace_68 (by decide) ?_
      refine wp_goto (tgt := 73) dX6_isPlace_69 (by decide) ?_
      exact wp_iret dX6_isPlace_73 rfl rfl rfl (by (repeat' split at hK) <;> first | exact hK | contradiction | (exfalso; simp_all; done))
  refine wp_sw0 ?_
  refine wp_iload_n dX6_isPlace_74 rfl ?_
  refine wp_bipush (v := (-6)) dX6_isPlace_75 (by decide) ?_
  refine wp_icmp_eq (tgt := 93) dX6_isPlace_77 (by decide) (fun h77 => ?_) (fun h77 => ?_)
  · refine wp_iconst (v := 0) dX6_isPlace_93 (by decide) ?_
    exact wp_iret dX6_isPlace_94 rfl rfl rfl (by (repeat' split at hK) <;> first | exact hK | contradiction | (exfalso; simp_all; done))
  · obtain ⟨k, hk, e_k⟩ := rkU_in h77
    rw [e_k]
    rw [e_k, nI_clamp (by omega)] at hK
    refine wp_aload_n dX6_isPlace_80 rfl ?_
    refine wp_iload_n dX6_isPlace_81 rfl ?_
    refine wp_iconst (v := 5) dX6_isPlace_82 (by decide) ?_
    refine wp_cV2 (z := mX6_paddlePart) (n' := 243) kX6_43 dX6_isPlace_83 (Nat.le_of_ble_eq_true rfl) (Nat.le_of_ble_eq_true rfl) tA_235 (Nat.le_of_ble_eq_true rfl) (Nat.le_of_ble_eq_true rfl) (Nat.le_refl _) (Nat.le_refl _) (s_X6_paddlePart hs (k := k) (j := 5) hM (by omega) (by omega) (wp_af ?_))
    refine wp_if_ne (tgt := 93) dX6_isPlace_86 (by decide) (fun h86 => ?_) (fun h86 => ?_)
    · refine wp_iconst (v := 0) dX6_isPlace_93 (by decide) ?_
      exact wp_iret dX6_isPlace_94 rfl rfl rfl (by (repeat' split at hK) <;> first | exact hK | contradiction | (exfalso; simp_all; done))
    · refine wp_iconst (v := 1) dX6_isPlace_89 (by decide) ?_
      refine wp_goto (tgt := 94) dX6_isPlace_90 (by decide) ?_
      exact wp_iret dX6_isPlace_94 rfl rfl rfl (by (repeat' split at hK) <;> first | exact hK | contradiction | (exfalso; simp_all; done))

set_option maxRecDepth 100000 in
set_option maxHeartbeats 4000000 in
theorem s_X6_places {γ : Gm} {l : Launch} {M : Mm} {R : Rm} {K : KT} {np : Nat} {w : Int32} {sg : Nat → Int32} (hs : M 236 = sg) (hM : RM R) (hn : sg 4 = nI np) (hp : np ≤ 6) (hE : ¬ (0 ≤ w ∧ w ≤ 4) → K (some (.long (-2))) 243 M R) (hK : (0 ≤ w ∧ w ≤ 4) → K (some (.long (plcM sg np w 40))) 243 M R) : CL γ l mX6_places 3 243 243 [.ref 235, .int w] M R K := by
  show WP γ l mX6_places 3 243 243 0 [some (.ref 235), some (.int w), none, none, none] [] 243 M R K
  have loop : ∀ (q c : Nat) (st : Int64), st = plcM sg np w c → (0 ≤ w ∧ w ≤ 4) → 40 - c < q → c ≤ 40 → WP γ l mX6_places 3 243 243 18 [some (.ref 235), some (.int w), some (.long st), none, some (.int (nI c))] [] 243 M R K := by
    intro q
    induction q with
    | zero => intro c st _ _ h; omega
    | succ q ih =>
      intro c st hst hw hq hc
      refine wp_iload dX6_places_18 rfl ?_
      refine wp_bipush (v := 40) dX6_places_20 (by decide) ?_
      refine wp_icN_ge (a := c) (b := 40) (tgt := 52) dX6_places_22 (by decide) rfl rfl (by omega) (by omega) (fun h22 => ?_) (fun h22 => ?_)
      · refine wp_lload_n dX6_places_52 rfl ?_
        exact wp_lret dX6_places_53 rfl rfl (by rw [hst, show c = 40 by omega]; exact hK hw)
      · refine wp_lload_n dX6_places_25 rfl ?_
        refine wp_aload_n dX6_places_26 rfl ?_
        refine wp_iload dX6_places_27 rfl ?_
        refine wp_iload_n dX6_places_29 rfl ?_
        refine wp_cV2 (z := mX6_isPlace) (n' := 243) kX6_143 dX6_places_30 (Nat.le_of_ble_eq_true rfl) (Nat.le_of_ble_eq_true rfl) tA_235 (Nat.le_of_ble_eq_true rfl) (Nat.le_of_ble_eq_true rfl) (Nat.le_refl _) (Nat.le_refl _) (s_X6_isPlace hs (c := c) hM hn hp (by omega) (wp_af ?_))
        refine wp_if_eq (tgt := 43) dX6_places_33 (by decide) (fun h33 => ?_) (fun h33 => ?_)
        · refine wp_lconst (v := 0) dX6_places_43 rfl ?_
          refine wp_lor dX6_places_44 ?_
          refine wp_lstore_n (L' := [some (.ref 235), some (.int w), some (.long _), none, some (.int (nI c))]) dX6_places_45 (by decide) rfl ?_
          refine wp_iinc (v := nI (c + 1)) (L' := [some (.ref 235), some (.int w), some (.long _), none, some (.int (nI (c + 1)))]) dX6_places_46 (by decide) rfl (inc_1 _) rfl ?_
          refine wp_goto (tgt := 18) dX6_places_49 (by decide) ?_
          refine ih (c + 1) _ ?_ hw (by omega) (by omega)
          rw [plcM, hst]
          first | rw [if_pos h33] | rw [if_neg h33]
        · refine wp_lconst (v := 1) dX6_places_36 rfl ?_
          refine wp_iload dX6_places_37 rfl ?_
          refine wp_lshl dX6_places_39 ?_
          refine wp_goto (tgt := 44) dX6_places_40 (by decide) ?_
          refine wp_lor dX6_places_44 ?_
          refine wp_lstore_n (L' := [some (.ref 235), some (.int w), some (.long _), none, some (.int (nI c))]) dX6_places_45 (by decide) rfl ?_
          refine wp_iinc (v := nI (c + 1)) (L' := [some (.ref 235), some (.int w), some (.long _), none, some (.int (nI (c + 1)))]) dX6_places_46 (by decide) rfl (inc_1 _) rfl ?_
          refine wp_goto (tgt := 18) dX6_places_49 (by decide) ?_
          refine ih (c + 1) _ ?_ hw (by omega) (by omega)
          rw [plcM, hst]
          first | rw [if_pos h33] | rw [if_neg h33]
  refine wp_iload_n dX6_places_0 rfl ?_
  refine wp_iconst (v := 0) dX6_places_1 (by decide) ?_
  refine wp_iconst (v := 4) dX6_places_2 (by decide) ?_
  refine wp_cS3 (z := mX6_within) (n' := 243) kX6_39 dX6_places_3 (Nat.le_of_ble_eq_true rfl) (Nat.le_of_ble_eq_true rfl) (Nat.le_of_ble_eq_true rfl) (Nat.le_refl _) (Nat.le_refl _) (s_X6_within (wp_af ?_))
  refine wp_bq_ne (tgt := 13) dX6_places_6 (by decide) (fun h6 => ?_) (fun h6 => ?_)
  · refine wp_lconst (v := 0) dX6_places_13 rfl ?_
    refine wp_lstore_n (L' := [some (.ref 235), some (.int w), some (.long _), none, none]) dX6_places_14 (by decide) rfl ?_
    refine wp_iconst (v := 0) dX6_places_15 (by decide) ?_
    refine wp_istore (L' := [some (.ref 235), some (.int w), some (.long _), none, some (.int _)]) dX6_places_16 (by decide) rfl ?_
    exact loop 41 0 _ rfl h6 (by omega) (by omega)
  · refine wp_ldc2 (v := (-2)) dX6_places_9 q778 ?_
    exact wp_lret dX6_places_12 rfl rfl (hE h6)

def stpN (sg : Nat → Int32) : Nat → Int32
  | 0 => 0
  | k + 1 => stpN sg k + (1 - sg (86 + 6 * k + 5))
def sumN (sg : Nat → Int32) : Nat → Int32
  | 0 => 0
  | c + 1 => sumN sg c + sg (6 + c)
def swN (sg : Nat → Int32) : Nat → Int32
  | 0 => 0
  | c + 1 => swN sg c + (szI (sg (6 + c)) + szI (sg (46 + c)))
def grN (sg : Nat → Int32) : Nat → Int32
  | 0 => 0
  | c + 1 => if grN sg c < szI (sg (6 + c)) then szI (sg (6 + c)) else grN sg c
def lsN (sg : Nat → Int32) : Nat → Int32
  | 0 => -6
  | c + 1 => if sg (6 + c) = 0 then lsN sg c else nI c
set_option maxRecDepth 100000 in
set_option maxHeartbeats 4000000 in
theorem s_X6_stopped {γ : Gm} {l : Launch} {M : Mm} {R : Rm} {K : KT} {sg : Nat → Int32} {np : Nat} (hs : M 236 = sg) (hM : RM R) (hn : sg 4 = nI np) (hp : np ≤ 6) (hK : K (some (.int (stpN sg np))) 243 M R) : CL γ l mX6_stopped 1 243 243 [.ref 235] M R K := by
  show WP γ l mX6_stopped 1 243 243 0 [some (.ref 235), none, none] [] 243 M R K
  have loop : ∀ (q c : Nat) (st : Int32), st = stpN sg c → np - c < q → c ≤ np → WP γ l mX6_stopped 1 243 243 4 [some (.ref 235), some (.int st), some (.int (nI c))] [] 243 M R K := by
    intro q
    induction q with
    | zero => intro c st _ h; omega
    | succ q ih =>
      intro c st hst hq hc
      refine wp_iload_n dX6_stopped_4 rfl ?_
      refine wp_aload_n dX6_stopped_5 rfl ?_
      refine wp_getQ fX6_7 tA_235 rfl hM.f0 (by decide) (Nat.le_of_ble_eq_true rfl) dX6_stopped_6 ?_
      refine wp_iconst (v := 4) dX6_stopped_9 (by decide) ?_
      refine wp_iadn (i := 4) (v := nI np) rfl tA_236 (Nat.le_of_ble_eq_true rfl) (by rw [lA_236]; omega) (Nat.le_of_ble_eq_true rfl) dX6_stopped_10 ((congrFun hs _).trans (hn)) ?_
      refine wp_icN_ge (a := c) (b := np) (tgt := 31) dX6_stopped_11 (by decide) rfl rfl (by omega) (by omega) (fun h11 => ?_) (fun h11 => ?_)
      · refine wp_iload_n dX6_stopped_31 rfl ?_
        exact wp_iret dX6_stopped_32 rfl rfl rfl (by rw [hst, show c = np by omega]; exact hK)
      · refine wp_iload_n dX6_stopped_14 rfl ?_
        refine wp_iconst (v := 1) dX6_stopped_15 (by decide) ?_
        refine wp_aload_n dX6_stopped_16 rfl ?_
        refine wp_iload_n dX6_stopped_17 rfl ?_
        refine wp_iconst (v := 5) dX6_stopped_18 (by decide) ?_
        refine wp_cV2 (z := mX6_paddlePart) (n' := 243) kX6_43 dX6_stopped_19 (Nat.le_of_ble_eq_true rfl) (Nat.le_of_ble_eq_true rfl) tA_235 (Nat.le_of_ble_eq_true rfl) (Nat.le_of_ble_eq_true rfl) (Nat.le_refl _) (Nat.le_refl _) (s_X6_paddlePart hs (k := c) (j := 5) hM (by omega) (by omega) (wp_af ?_))
        refine wp_isub dX6_stopped_22 ?_
        refine wp_iadd dX6_stopped_23 ?_
        refine wp_istore_n (L' := [some (.ref 235), some (.int _), some (.int (nI c))]) dX6_stopped_24 (by decide) rfl ?_
        refine wp_iinc (v := nI (c + 1)) (L' := [some (.ref 235), some (.int _), some (.int (nI (c + 1)))]) dX6_stopped_25 (by decide) rfl (inc_1 _) rfl ?_
        refine wp_goto (tgt := 4) dX6_stopped_28 (by decide) ?_
        refine ih (c + 1) _ ?_ (by omega) (by omega)
        rw [stpN, hst]
  refine wp_iconst (v := 0) dX6_stopped_0 (by decide) ?_
  refine wp_istore_n (L' := [some (.ref 235), some (.int _), none]) dX6_stopped_1 (by decide) rfl ?_
  refine wp_iconst (v := 0) dX6_stopped_2 (by decide) ?_
  refine wp_istore_n (L' := [some (.ref 235), some (.int _), some (.int _)]) dX6_stopped_3 (by decide) rfl ?_
  exact loop (np + 1) 0 _ rfl (by omega) (by omega)

set_option maxRecDepth 100000 in
set_option maxHeartbeats 4000000 in
theorem s_X6_sumOfLevels {γ : Gm} {l : Launch} {M : Mm} {R : Rm} {K : KT} {sg : Nat → Int32} (hs : M 236 = sg) (hM : RM R) (hK : K (some (.int (sumN sg 40))) 243 M R) : CL γ l mX6_sumOfLevels 1 243 243 [.ref 235] M R K := by
  show WP γ l mX6_sumOfLevels 1 243 243 0 [some (.ref 235), none, none] [] 243 M R K
  have loop : ∀ (q c : Nat) (st : Int32), st = sumN sg c → 40 - c < q → c ≤ 40 → WP γ l mX6_sumOfLevels 1 243 243 4 [some (.ref 235), some (.int st), some (.int (nI c))] [] 243 M R K := by
    intro q
    induction q with
    | zero => intro c st _ h; omega
    | succ q ih =>
      intro c st hst hq hc
      refine wp_iload_n dX6_sumOfLevels_4 rfl ?_
      refine wp_bipush (v := 40) dX6_sumOfLevels_5 (by decide) ?_
      refine wp_icN_ge (a := c) (b := 40) (tgt := 24) dX6_sumOfLevels_7 (by decide) rfl rfl (by omega) (by omega) (fun h7 => ?_) (fun h7 => ?_)
      · refine wp_iload_n dX6_sumOfLevels_24 rfl ?_
        exact wp_iret dX6_sumOfLevels_25 rfl rfl rfl (by rw [hst, show c = 40 by omega]; exact hK)
      · refine wp_iload_n dX6_sumOfLevels_10 rfl ?_
        refine wp_aload_n dX6_sumOfLevels_11 rfl ?_
        refine wp_iload_n dX6_sumOfLevels_12 rfl ?_
        refine wp_cV1 (z := mX6_levelOf) (n' := 243) kX6_47 dX6_sumOfLevels_13 (Nat.le_of_ble_eq_true rfl) (Nat.le_of_ble_eq_true rfl) tA_235 (Nat.le_of_ble_eq_true rfl) (Nat.le_of_ble_eq_true rfl) (Nat.le_refl _) (Nat.le_refl _) (s_X6_levelOf hs (c := c) hM (by omega) (wp_af ?_))
        refine wp_iadd dX6_sumOfLevels_16 ?_
        refine wp_istore_n (L' := [some (.ref 235), some (.int _), some (.int (nI c))]) dX6_sumOfLevels_17 (by decide) rfl ?_
        refine wp_iinc (v := nI (c + 1)) (L' := [some (.ref 235), some (.int _), some (.int (nI (c + 1)))]) dX6_sumOfLevels_18 (by decide) rfl (inc_1 _) rfl ?_
        refine wp_goto (tgt := 4) dX6_sumOfLevels_21 (by decide) ?_
        refine ih (c + 1) _ ?_ (by omega) (by omega)
        rw [sumN, hst]
  refine wp_iconst (v := 0) dX6_sumOfLevels_0 (by decide) ?_
  refine wp_istore_n (L' := [some (.ref 235), some (.int _), none]) dX6_sumOfLevels_1 (by decide) rfl ?_
  refine wp_iconst (v := 0) dX6_sumOfLevels_2 (by decide) ?_
  refine wp_istore_n (L' := [some (.ref 235), some (.int _), some (.int _)]) dX6_sumOfLevels_3 (by decide) rfl ?_
  exact loop (40 + 1) 0 _ rfl (by omega) (by omega)

set_option maxRecDepth 100000 in
set_option maxHeartbeats 4000000 in
theorem s_X6_swings {γ : Gm} {l : Launch} {M : Mm} {R : Rm} {K : KT} {sg : Nat → Int32} (hs : M 236 = sg) (hM : RM R) (hK : K (some (.int (swN sg 40))) 243 M R) : CL γ l mX6_swings 1 243 243 [.ref 235] M R K := by
  show WP γ l mX6_swings 1 243 243 0 [some (.ref 235), none, none] [] 243 M R K
  have loop : ∀ (q c : Nat) (st : Int32), st = swN sg c → 40 - c < q → c ≤ 40 → WP γ l mX6_swings 1 243 243 4 [some (.ref 235), some (.int st), some (.int (nI c))] [] 243 M R K := by
    intro q
    induction q with
    | zero => intro c st _ h; omega
    | succ q ih =>
      intro c st hst hq hc
      refine wp_iload_n dX6_swings_4 rfl ?_
      refine wp_bipush (v := 40) dX6_swings_5 (by decide) ?_
      refine wp_icN_ge (a := c) (b := 40) (tgt := 40) dX6_swings_7 (by decide) rfl rfl (by omega) (by omega) (fun h7 => ?_) (fun h7 => ?_)
      · refine wp_iload_n dX6_swings_40 rfl ?_
        exact wp_iret dX6_swings_41 rfl rfl rfl (by rw [hst, show c = 40 by omega]; exact hK)
      · refine wp_iload_n dX6_swings_10 rfl ?_
        refine wp_aload_n dX6_swings_11 rfl ?_
        refine wp_iload_n dX6_swings_12 rfl ?_
        refine wp_cV1 (z := mX6_levelOf) (n' := 243) kX6_47 dX6_swings_13 (Nat.le_of_ble_eq_true rfl) (Nat.le_of_ble_eq_true rfl) tA_235 (Nat.le_of_ble_eq_true rfl) (Nat.le_of_ble_eq_true rfl) (Nat.le_refl _) (Nat.le_refl _) (s_X6_levelOf hs (c := c) hM (by omega) (wp_af ?_))
        refine wp_cS1 (z := mX6_size) (n' := 243) kX6_51 dX6_swings_16 (Nat.le_of_ble_eq_true rfl) (Nat.le_of_ble_eq_true rfl) (Nat.le_of_ble_eq_true rfl) (Nat.le_refl _) (Nat.le_refl _) (s_X6_size (wp_af ?_))
        refine wp_aload_n dX6_swings_19 rfl ?_
        refine wp_getQ fX6_7 tA_235 rfl hM.f0 (by decide) (Nat.le_of_ble_eq_true rfl) dX6_swings_20 ?_
        refine wp_bipush (v := 46) dX6_swings_23 (by decide) ?_
        refine wp_iload_n dX6_swings_25 rfl ?_
        refine wp_iadd dX6_swings_26 ?_
        refine wp_iadn (i := (46 + c)) (ix_add rfl rfl) tA_236 (Nat.le_of_ble_eq_true rfl) (by rw [lA_236]; omega) (Nat.le_of_ble_eq_true rfl) dX6_swings_27 (congrFun hs _) ?_
        refine wp_cS1 (z := mX6_size) (n' := 243) kX6_51 dX6_swings_28 (Nat.le_of_ble_eq_true rfl) (Nat.le_of_ble_eq_true rfl) (Nat.le_of_ble_eq_true rfl) (Nat.le_refl _) (Nat.le_refl _) (s_X6_size (wp_af ?_))
        refine wp_iadd dX6_swings_31 ?_
        refine wp_iadd dX6_swings_32 ?_
        refine wp_istore_n (L' := [some (.ref 235), some (.int _), some (.int (nI c))]) dX6_swings_33 (by decide) rfl ?_
        refine wp_iinc (v := nI (c + 1)) (L' := [some (.ref 235), some (.int _), some (.int (nI (c + 1)))]) dX6_swings_34 (by decide) rfl (inc_1 _) rfl ?_
        refine wp_goto (tgt := 4) dX6_swings_37 (by decide) ?_
        refine ih (c + 1) _ ?_ (by omega) (by omega)
        rw [swN, hst]
  refine wp_iconst (v := 0) dX6_swings_0 (by decide) ?_
  refine wp_istore_n (L' := [some (.ref 235), some (.int _), none]) dX6_swings_1 (by decide) rfl ?_
  refine wp_iconst (v := 0) dX6_swings_2 (by decide) ?_
  refine wp_istore_n (L' := [some (.ref 235), some (.int _), some (.int _)]) dX6_swings_3 (by decide) rfl ?_
  exact loop (40 + 1) 0 _ rfl (by omega) (by omega)

set_option maxRecDepth 100000 in
set_option maxHeartbeats 4000000 in
theorem s_X6_greatest {γ : Gm} {l : Launch} {M : Mm} {R : Rm} {K : KT} {sg : Nat → Int32} (hs : M 236 = sg) (hM : RM R) (hK : K (some (.int (grN sg 40))) 243 M R) : CL γ l mX6_greatest 1 243 243 [.ref 235] M R K := by
  show WP γ l mX6_greatest 1 243 243 0 [some (.ref 235), none, none] [] 243 M R K
  have loop : ∀ (q c : Nat) (st : Int32), st = grN sg c → 40 - c < q → c ≤ 40 → WP γ l mX6_greatest 1 243 243 4 [some (.ref 235), some (.int st), some (.int (nI c))] [] 243 M R K := by
    intro q
    induction q with
    | zero => intro c st _ h; omega
    | succ q ih =>
      intro c st hst hq hc
      refine wp_iload_n dX6_greatest_4 rfl ?_
      refine wp_bipush (v := 40) dX6_greatest_5 (by decide) ?_
      refine wp_icN_ge (a := c) (b := 40) (tgt := 41) dX6_greatest_7 (by decide) rfl rfl (by omega) (by omega) (fun h7 => ?_) (fun h7 => ?_)
      · refine wp_iload_n dX6_greatest_41 rfl ?_
        exact wp_iret dX6_greatest_42 rfl rfl rfl (by rw [hst, show c = 40 by omega]; exact hK)
      · refine wp_aload_n dX6_greatest_10 rfl ?_
        refine wp_iload_n dX6_greatest_11 rfl ?_
        refine wp_cV1 (z := mX6_levelOf) (n' := 243) kX6_47 dX6_greatest_12 (Nat.le_of_ble_eq_true rfl) (Nat.le_of_ble_eq_true rfl) tA_235 (Nat.le_of_ble_eq_true rfl) (Nat.le_of_ble_eq_true rfl) (Nat.le_refl _) (Nat.le_refl _) (s_X6_levelOf hs (c := c) hM (by omega) (wp_af ?_))
        refine wp_cS1 (z := mX6_size) (n' := 243) kX6_51 dX6_greatest_15 (Nat.le_of_ble_eq_true rfl) (Nat.le_of_ble_eq_true rfl) (Nat.le_of_ble_eq_true rfl) (Nat.le_refl _) (Nat.le_refl _) (s_X6_size (wp_af ?_))
        refine wp_iload_n dX6_greatest_18 rfl ?_
        refine wp_icmp_le (tgt := 33) dX6_greatest_19 (by decide) (fun h19 => ?_) (fun h19 => ?_)
        · refine wp_iload_n dX6_greatest_33 rfl ?_
          refine wp_istore_n (L' := [some (.ref 235), some (.int st), some (.int (nI c))]) dX6_greatest_34 (by decide) rfl ?_
          refine wp_iinc (v := nI (c + 1)) (L' := [some (.ref 235), some (.int st), some (.int (nI (c + 1)))]) dX6_greatest_35 (by decide) rfl (inc_1 _) rfl ?_
          refine wp_goto (tgt := 4) dX6_greatest_38 (by decide) ?_
          refine ih (c + 1) _ ?_ (by omega) (by omega)
          rw [grN, ← hst]
          first | rw [if_pos (Int32.not_le.mp h19)] | rw [if_neg (Int32.not_lt.mpr h19)]
        · refine wp_aload_n dX6_greatest_22 rfl ?_
          refine wp_iload_n dX6_greatest_23 rfl ?_
          refine wp_cV1 (z := mX6_levelOf) (n' := 243) kX6_47 dX6_greatest_24 (Nat.le_of_ble_eq_true rfl) (Nat.le_of_ble_eq_true rfl) tA_235 (Nat.le_of_ble_eq_true rfl) (Nat.le_of_ble_eq_true rfl) (Nat.le_refl _) (Nat.le_refl _) (s_X6_levelOf hs (c := c) hM (by omega) (wp_af ?_))
          refine wp_cS1 (z := mX6_size) (n' := 243) kX6_51 dX6_greatest_27 (Nat.le_of_ble_eq_true rfl) (Nat.le_of_ble_eq_true rfl) (Nat.le_of_ble_eq_true rfl) (Nat.le_refl _) (Nat.le_refl _) (s_X6_size (wp_af ?_))
          refine wp_goto (tgt := 34) dX6_greatest_30 (by decide) ?_
          refine wp_istore_n (L' := [some (.ref 235), some (.int _), some (.int (nI c))]) dX6_greatest_34 (by decide) rfl ?_
          refine wp_iinc (v := nI (c + 1)) (L' := [some (.ref 235), some (.int _), some (.int (nI (c + 1)))]) dX6_greatest_35 (by decide) rfl (inc_1 _) rfl ?_
          refine wp_goto (tgt := 4) dX6_greatest_38 (by decide) ?_
          refine ih (c + 1) _ ?_ (by omega) (by omega)
          rw [grN, ← hst]
          first | rw [if_pos (Int32.not_le.mp h19)] | rw [if_neg (Int32.not_lt.mpr h19)]
  refine wp_iconst (v := 0) dX6_greatest_0 (by decide) ?_
  refine wp_istore_n (L' := [some (.ref 235), some (.int _), none]) dX6_greatest_1 (by decide) rfl ?_
  refine wp_iconst (v := 0) dX6_greatest_2 (by decide) ?_
  refine wp_istore_n (L' := [some (.ref 235), some (.int _), some (.int _)]) dX6_greatest_3 (by decide) rfl ?_
  exact loop (40 + 1) 0 _ rfl (by omega) (by omega)

set_option maxRecDepth 100000 in
set_option maxHeartbeats 4000000 in
theorem s_X6_lastSwung {γ : Gm} {l : Launch} {M : Mm} {R : Rm} {K : KT} {sg : Nat → Int32} (hs : M 236 = sg) (hM : RM R) (hK : K (some (.int (lsN sg 40))) 243 M R) : CL γ l mX6_lastSwung 1 243 243 [.ref 235] M R K := by
  show WP γ l mX6_lastSwung 1 243 243 0 [some (.ref 235), none, none] [] 243 M R K
  have loop : ∀ (q c : Nat) (st : Int32), st = lsN sg c → 40 - c < q → c ≤ 40 → WP γ l mX6_lastSwung 1 243 243 5 [some (.ref 235), some (.int st), some (.int (nI c))] [] 243 M R K := by
    intro q
    induction q with
    | zero => intro c st _ h; omega
    | succ q ih =>
      intro c st hst hq hc
      refine wp_iload_n dX6_lastSwung_5 rfl ?_
      refine wp_bipush (v := 40) dX6_lastSwung_6 (by decide) ?_
      refine wp_icN_ge (a := c) (b := 40) (tgt := 31) dX6_lastSwung_8 (by decide) rfl rfl (by omega) (by omega) (fun h8 => ?_) (fun h8 => ?_)
      · refine wp_iload_n dX6_lastSwung_31 rfl ?_
        exact wp_iret dX6_lastSwung_32 rfl rfl rfl (by rw [hst, show c = 40 by omega]; exact hK)
      · refine wp_aload_n dX6_lastSwung_11 rfl ?_
        refine wp_iload_n dX6_lastSwung_12 rfl ?_
        refine wp_cV1 (z := mX6_levelOf) (n' := 243) kX6_47 dX6_lastSwung_13 (Nat.le_of_ble_eq_true rfl) (Nat.le_of_ble_eq_true rfl) tA_235 (Nat.le_of_ble_eq_true rfl) (Nat.le_of_ble_eq_true rfl) (Nat.le_refl _) (Nat.le_refl _) (s_X6_levelOf hs (c := c) hM (by omega) (wp_af ?_))
        refine wp_if_eq (tgt := 23) dX6_lastSwung_16 (by decide) (fun h16 => ?_) (fun h16 => ?_)
        · refine wp_iload_n dX6_lastSwung_23 rfl ?_
          refine wp_istore_n (L' := [some (.ref 235), some (.int st), some (.int (nI c))]) dX6_lastSwung_24 (by decide) rfl ?_
          refine wp_iinc (v := nI (c + 1)) (L' := [some (.ref 235), some (.int st), some (.int (nI (c + 1)))]) dX6_lastSwung_25 (by decide) rfl (inc_1 _) rfl ?_
          refine wp_goto (tgt := 5) dX6_lastSwung_28 (by decide) ?_
          refine ih (c + 1) _ ?_ (by omega) (by omega)
          rw [lsN]
          first | rw [if_pos h16, hst] | rw [if_neg h16]
        · refine wp_iload_n dX6_lastSwung_19 rfl ?_
          refine wp_goto (tgt := 24) dX6_lastSwung_20 (by decide) ?_
          refine wp_istore_n (L' := [some (.ref 235), some (.int (nI c)), some (.int (nI c))]) dX6_lastSwung_24 (by decide) rfl ?_
          refine wp_iinc (v := nI (c + 1)) (L' := [some (.ref 235), some (.int (nI c)), some (.int (nI (c + 1)))]) dX6_lastSwung_25 (by decide) rfl (inc_1 _) rfl ?_
          refine wp_goto (tgt := 5) dX6_lastSwung_28 (by decide) ?_
          refine ih (c + 1) _ ?_ (by omega) (by omega)
          rw [lsN]
          first | rw [if_pos h16, hst] | rw [if_neg h16]
  refine wp_bipush (v := (-6)) dX6_lastSwung_0 (by decide) ?_
  refine wp_istore_n (L' := [some (.ref 235), some (.int (-6)), none]) dX6_lastSwung_2 (by decide) rfl ?_
  refine wp_iconst (v := 0) dX6_lastSwung_3 (by decide) ?_
  refine wp_istore_n (L' := [some (.ref 235), some (.int (-6)), some (.int _)]) dX6_lastSwung_4 (by decide) rfl ?_
  exact loop (40 + 1) 0 _ rfl (by omega) (by omega)

def cntR (sg : Nat → Int32) (np : Nat) (pl rc w : Int32) : Int32 := if w = 0 then sg 3 else if w = 1 then sg 4 else if w = 2 then stpN sg np else if w = 3 then sg 5 else if w = 4 then sumN sg 40 + 1000000 else if w = 5 then swN sg 40 else if w = 6 then grN sg 40 else if w = 7 then lsN sg 40 else if w = 8 then sg 0 else if w = 9 then sg 1 else if w = 10 then sg 2 else if w = 11 then pl else if w = 12 then rc else -2
set_option maxRecDepth 100000 in
set_option maxHeartbeats 4000000 in
theorem s_X6_count {γ : Gm} {l : Launch} {M : Mm} {R : Rm} {K : KT} {np : Nat} {w : Int32} {sg : Nat → Int32} (hs : M 236 = sg) (hM : RM R) (hn : sg 4 = nI np) (hp : np ≤ 6) (hK : K (some (.int (cntR sg np (M 235 7) (M 235 3) w))) 243 M R) : CL γ l mX6_count 2 243 243 [.ref 235, .int w] M R K := by
  show WP γ l mX6_count 2 243 243 0 [some (.ref 235), some (.int w)] [] 243 M R K
  unfold cntR at hK
  refine wp_iload_n dX6_count_0 rfl ?_
  refine wp_tswitch [(0, 68), (1, 75), (2, 82), (3, 87), (4, 94), (5, 102), (6, 107), (7, 112), (8, 117), (9, 117), (10, 117), (11, 127), (12, 132)] 137 dX6_count_1 (by decide) (by decide) (by decide +kernel) ?_
  refine wp_sw (fun h1_0 => ?_) (fun h1_0 => ?_)
  · subst h1_0
    rw [if_pos rfl] at hK
    refine wp_aload_n dX6_count_68 rfl ?_
    refine wp_getQ fX6_7 tA_235 rfl hM.f0 (by decide) (Nat.le_of_ble_eq_true rfl) dX6_count_69 ?_
    refine wp_iconst (v := 3) dX6_count_72 (by decide) ?_
    refine wp_iadn (i := 3) rfl tA_236 (Nat.le_of_ble_eq_true rfl) (by rw [lA_236]; omega) (Nat.le_of_ble_eq_true rfl) dX6_count_73 (congrFun hs _) ?_
    exact wp_iret dX6_count_74 rfl rfl rfl (hK)
  refine wp_sw (fun h1_1 => ?_) (fun h1_1 => ?_)
  · subst h1_1
    rw [if_neg (by decide), if_pos rfl] at hK
    refine wp_aload_n dX6_count_75 rfl ?_
    refine wp_getQ fX6_7 tA_235 rfl hM.f0 (by decide) (Nat.le_of_ble_eq_true rfl) dX6_count_76 ?_
    refine wp_iconst (v := 4) dX6_count_79 (by decide) ?_
    refine wp_iadn (i := 4) rfl tA_236 (Nat.le_of_ble_eq_true rfl) (by rw [lA_236]; omega) (Nat.le_of_ble_eq_true rfl) dX6_count_80 (congrFun hs _) ?_
    exact wp_iret dX6_count_81 rfl rfl rfl (hK)
  refine wp_sw (fun h1_2 => ?_) (fun h1_2 => ?_)
  · subst h1_2
    rw [if_neg (by decide), if_neg (by decide), if_pos rfl] at hK
    refine wp_aload_n dX6_count_82 rfl ?_
    refine wp_cV0 (z := mX6_stopped) (n' := 243) kX6_146 dX6_count_83 (Nat.le_of_ble_eq_true rfl) (Nat.le_of_ble_eq_true rfl) tA_235 (Nat.le_of_ble_eq_true rfl) (Nat.le_of_ble_eq_true rfl) (Nat.le_refl _) (Nat.le_refl _) (s_X6_stopped hs hM hn hp (wp_af ?_))
    exact wp_iret dX6_count_86 rfl rfl rfl (hK)
  refine wp_sw (fun h1_3 => ?_) (fun h1_3 => ?_)
  · subst h1_3
    rw [if_neg (by decide), if_neg (by decide), if_neg (by decide), if_pos rfl] at hK
    refine wp_aload_n dX6_count_87 rfl ?_
    refine wp_getQ fX6_7 tA_235 rfl hM.f0 (by decide) (Nat.le_of_ble_eq_true rfl) dX6_count_88 ?_
    refine wp_iconst (v := 5) dX6_count_91 (by decide) ?_
    refine wp_iadn (i := 5) rfl tA_236 (Nat.le_of_ble_eq_true rfl) (by rw [lA_236]; omega) (Nat.le_of_ble_eq_true rfl) dX6_count_92 (congrFun hs _) ?_
    exact wp_iret dX6_count_93 rfl rfl rfl (hK)
  refine wp_sw (fun h1_4 => ?_) (fun h1_4 => ?_)
  · subst h1_4
    rw [if_neg (by decide), if_neg (by decide), if_neg (by decide), if_neg (by decide), if_pos rfl] at hK
    refine wp_aload_n dX6_count_94 rfl ?_
    refine wp_cV0 (z := mX6_sumOfLevels) (n' := 243) kX6_149 dX6_count_95 (Nat.le_of_ble_eq_true rfl) (Nat.le_of_ble_eq_true rfl) tA_235 (Nat.le_of_ble_eq_true rfl) (Nat.le_of_ble_eq_true rfl) (Nat.le_refl _) (Nat.le_refl _) (s_X6_sumOfLevels hs hM (wp_af ?_))
    refine wp_ldc (v := 1000000) dX6_count_98 q795 ?_
    refine wp_iadd dX6_count_100 ?_
    exact wp_iret dX6_count_101 rfl rfl rfl (hK)
  refine wp_sw (fun h1_5 => ?_) (fun h1_5 => ?_)
  · subst h1_5
    rw [if_neg (by decide), if_neg (by decide), if_neg (by decide), if_neg (by decide), if_neg (by decide), if_pos rfl] at hK
    refine wp_aload_n dX6_count_102 rfl ?_
    refine wp_cV0 (z := mX6_swings) (n' := 243) kX6_153 dX6_count_103 (Nat.le_of_ble_eq_true rfl) (Nat.le_of_ble_eq_true rfl) tA_235 (Nat.le_of_ble_eq_true rfl) (Nat.le_of_ble_eq_true rfl) (Nat.le_refl _) (Nat.le_refl _) (s_X6_swings hs hM (wp_af ?_))
    exact wp_iret dX6_count_106 rfl rfl rfl (hK)
  refine wp_sw (fun h1_6 => ?_) (fun h1_6 => ?_)
  · subst h1_6
    rw [if_neg (by decide), if_neg (by decide), if_neg (by decide), if_neg (by decide), if_neg (by decide), if_neg (by decide), if_pos rfl] at hK
    refine wp_aload_n dX6_count_107 rfl ?_
    refine wp_cV0 (z := mX6_greatest) (n' := 243) kX6_156 dX6_count_108 (Nat.le_of_ble_eq_true rfl) (Nat.le_of_ble_eq_true rfl) tA_235 (Nat.le_of_ble_eq_true rfl) (Nat.le_of_ble_eq_true rfl) (Nat.le_refl _) (Nat.le_refl _) (s_X6_greatest hs hM (wp_af ?_))
    exact wp_iret dX6_count_111 rfl rfl rfl (hK)
  refine wp_sw (fun h1_7 => ?_) (fun h1_7 => ?_)
  · subst h1_7
    rw [if_neg (by decide), if_neg (by decide), if_neg (by decide), if_neg (by decide), if_neg (by decide), if_neg (by decide), if_neg (by decide), if_pos rfl] at hK
    refine wp_aload_n dX6_count_112 rfl ?_
    refine wp_cV0 (z := mX6_lastSwung) (n' := 243) kX6_159 dX6_count_113 (Nat.le_of_ble_eq_true rfl) (Nat.le_of_ble_eq_true rfl) tA_235 (Nat.le_of_ble_eq_true rfl) (Nat.le_of_ble_eq_true rfl) (Nat.le_refl _) (Nat.le_refl _) (s_X6_lastSwung hs hM (wp_af ?_))
    exact wp_iret dX6_count_116 rfl rfl rfl (hK)
  refine wp_sw (fun h1_8 => ?_) (fun h1_8 => ?_)
  · subst h1_8
    rw [if_neg (by decide), if_neg (by decide), if_neg (by decide), if_neg (by decide), if_neg (by decide), if_neg (by decide), if_neg (by decide), if_neg (by decide), if_pos rfl] at hK
    refine wp_aload_n dX6_count_117 rfl ?_
    refine wp_getQ fX6_7 tA_235 rfl hM.f0 (by decide) (Nat.le_of_ble_eq_true rfl) dX6_count_118 ?_
    refine wp_iload_n dX6_count_121 rfl ?_
    refine wp_bipush (v := 8) dX6_count_122 (by decide) ?_
    refine wp_isub dX6_count_124 ?_
    refine wp_iadn (i := (8 - 8)) (ix_sub (a := 8) (b := 8) rfl rfl (by omega)) tA_236 (Nat.le_of_ble_eq_true rfl) (by rw [lA_236]; omega) (Nat.le_of_ble_eq_true rfl) dX6_count_125 (congrFun hs _) ?_
    exact wp_iret dX6_count_126 rfl rfl rfl (hK)
  refine wp_sw (fun h1_9 => ?_) (fun h1_9 => ?_)
  · subst h1_9
    rw [if_neg (by decide), if_neg (by decide), if_neg (by decide), if_neg (by decide), if_neg (by decide), if_neg (by decide), if_neg (by decide), if_neg (by decide), if_neg (by decide), if_pos rfl] at hK
    refine wp_aload_n dX6_count_117 rfl ?_
    refine wp_getQ fX6_7 tA_235 rfl hM.f0 (by decide) (Nat.le_of_ble_eq_true rfl) dX6_count_118 ?_
    refine wp_iload_n dX6_count_121 rfl ?_
    refine wp_bipush (v := 8) dX6_count_122 (by decide) ?_
    refine wp_isub dX6_count_124 ?_
    refine wp_iadn (i := (9 - 8)) (ix_sub (a := 9) (b := 8) rfl rfl (by omega)) tA_236 (Nat.le_of_ble_eq_true rfl) (by rw [lA_236]; omega) (Nat.le_of_ble_eq_true rfl) dX6_count_125 (congrFun hs _) ?_
    exact wp_iret dX6_count_126 rfl rfl rfl (hK)
  refine wp_sw (fun h1_10 => ?_) (fun h1_10 => ?_)
  · subst h1_10
    rw [if_neg (by decide), if_neg (by decide), if_neg (by decide), if_neg (by decide), if_neg (by decide), if_neg (by decide), if_neg (by decide), if_neg (by decide), if_neg (by decide), if_neg (by decide), if_pos rfl] at hK
    refine wp_aload_n dX6_count_117 rfl ?_
    refine wp_getQ fX6_7 tA_235 rfl hM.f0 (by decide) (Nat.le_of_ble_eq_true rfl) dX6_count_118 ?_
    refine wp_iload_n dX6_count_121 rfl ?_
    refine wp_bipush (v := 8) dX6_count_122 (by decide) ?_
    refine wp_isub dX6_count_124 ?_
    refine wp_iadn (i := (10 - 8)) (ix_sub (a := 10) (b := 8) rfl rfl (by omega)) tA_236 (Nat.le_of_ble_eq_true rfl) (by rw [lA_236]; omega) (Nat.le_of_ble_eq_true rfl) dX6_count_125 (congrFun hs _) ?_
    exact wp_iret dX6_count_126 rfl rfl rfl (hK)
  refine wp_sw (fun h1_11 => ?_) (fun h1_11 => ?_)
  · subst h1_11
    rw [if_neg (by decide), if_neg (by decide), if_neg (by decide), if_neg (by decide), if_neg (by decide), if_neg (by decide), if_neg (by decide), if_neg (by decide), if_neg (by decide), if_neg (by decide), if_neg (by decide), if_pos rfl] at hK
    refine wp_aload_n dX6_count_127 rfl ?_
    refine wp_getI fX6_162 tA_235 rfl (Nat.le_of_ble_eq_true rfl) dX6_count_128 ?_
    exact wp_iret dX6_count_131 rfl rfl rfl (hK)
  refine wp_sw (fun h1_12 => ?_) (fun h1_12 => ?_)
  · subst h1_12
    rw [if_neg (by decide), if_neg (by decide), if_neg (by decide), if_neg (by decide), if_neg (by decide), if_neg (by decide), if_neg (by decide), if_neg (by decide), if_neg (by decide), if_neg (by decide), if_neg (by decide), if_neg (by decide), if_pos rfl] at hK
    refine wp_aload_n dX6_count_132 rfl ?_
    refine wp_getI fX6_31 tA_235 rfl (Nat.le_of_ble_eq_true rfl) dX6_count_133 ?_
    exact wp_iret dX6_count_136 rfl rfl rfl (hK)
  refine wp_sw0 ?_
  refine wp_bipush (v := (-2)) dX6_count_137 (by decide) ?_
  exact wp_iret dX6_count_139 rfl rfl rfl (by rw [if_neg h1_0, if_neg h1_1, if_neg h1_2, if_neg h1_3, if_neg h1_4, if_neg h1_5, if_neg h1_6, if_neg h1_7, if_neg h1_8, if_neg h1_9, if_neg h1_10, if_neg h1_11, if_neg h1_12] at hK; exact hK)

