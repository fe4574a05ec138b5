/-! THE CLASS: masks of places -/
set_option maxRecDepth 100000 in
set_option maxHeartbeats 4000000 in
theorem s_X4_cellsThatAre {γ : Gm} {l : Launch} {M : Mm} {R : Rm} {K : KT} {b np ng : Nat} {sg : Nat → Int32} {w : Nat}  (hT : Tb b) (hR : RT R b) (hk : Tk M R b np ng sg) (ho : Ok0 sg np ng) (hw : w < 5) (hK : K (some (.long (plcM sg np (nI w) 40))) 247 M R) : CL γ l mX4_cellsThatAre 2 247 247 [.ref b, .int (nI w)] M R K := by
  show WP γ l mX4_cellsThatAre 2 247 247 0 [some (.ref b), some (.int (nI w)), none, none, none] [] 247 M R K
  have loop : ∀ (q c : Nat) (v : Int64), q + c = 40 → v = plcM sg np (nI w) c → WP γ l mX4_cellsThatAre 2 247 247 5 [some (.ref b), some (.int (nI w)), some (.long v), none, some (.int (nI c))] [] 247 M R K := by
    intro q
    induction q with
    | zero =>
      intro c v hq hv
      refine wp_iload dX4_cellsThatAre_5 rfl ?_
      refine wp_bipush (v := 40) dX4_cellsThatAre_7 (by decide) ?_
      refine wp_icN_ge (a := c) (b := 40) (tgt := 35) dX4_cellsThatAre_9 (by decide) rfl rfl (by omega) (by omega) (fun h9 => ?_) (fun h9 => absurd h9 (by omega))
      refine wp_lload_n dX4_cellsThatAre_35 rfl ?_
      exact wp_lret dX4_cellsThatAre_36 rfl rfl (by rw [hv, show c = 40 by omega]; exact hK)
    | succ q ih =>
      intro c v hq hv
      refine wp_iload dX4_cellsThatAre_5 rfl ?_
      refine wp_bipush (v := 40) dX4_cellsThatAre_7 (by decide) ?_
      refine wp_icN_ge (a := c) (b := 40) (tgt := 35) dX4_cellsThatAre_9 (by decide) rfl rfl (by omega) (by omega) (fun h9 => absurd h9 (by omega)) (fun h9 => ?_)
      refine wp_aload_n dX4_cellsThatAre_12 rfl ?_
      refine wp_iload dX4_cellsThatAre_13 rfl ?_
      refine wp_iload_n dX4_cellsThatAre_15 rfl ?_
      refine wp_cV2 (z := mX4_isPlace) (n' := 247) kX4_143 dX4_cellsThatAre_16 (Nat.le_of_ble_eq_true rfl) (Nat.le_of_ble_eq_true rfl) hT.t0.1 (by have := hT.lt; omega) (Nat.le_of_ble_eq_true rfl) (Nat.le_refl _) (Nat.le_refl _) (s_X4_isPlace hT hR hk ho (show c < 40 by omega) hw (wp_af ?_))
      refine wp_if_eq (tgt := 29) dX4_cellsThatAre_19 (by decide) (fun h19 => ?_) (fun h19 => ?_)
      · refine wp_iinc (v := nI (c + 1)) (L' := [some (.ref b), some (.int (nI w)), some (.long _), none, some (.int (nI (c + 1)))]) dX4_cellsThatAre_29 (by decide) rfl (inc_1 _) rfl ?_
        refine wp_goto (tgt := 5) dX4_cellsThatAre_32 (by decide) ?_
        exact ih (c + 1) _ (by omega) (by rw [hv, plcM]; first | rw [if_pos h19, Int64.or_zero] | rw [if_neg h19])
      · refine wp_lload_n dX4_cellsThatAre_22 rfl ?_
        refine wp_lconst (v := 1) dX4_cellsThatAre_23 rfl ?_
        refine wp_iload dX4_cellsThatAre_24 rfl ?_
        refine wp_lshl dX4_cellsThatAre_26 ?_
        refine wp_lor dX4_cellsThatAre_27 ?_
        refine wp_lstore_n (L' := [some (.ref b), some (.int (nI w)), some (.long _), none, some (.int (nI c))]) dX4_cellsThatAre_28 (by decide) rfl ?_
        refine wp_iinc (v := nI (c + 1)) (L' := [some (.ref b), some (.int (nI w)), some (.long _), none, some (.int (nI (c + 1)))]) dX4_cellsThatAre_29 (by decide) rfl (inc_1 _) rfl ?_
        refine wp_goto (tgt := 5) dX4_cellsThatAre_32 (by decide) ?_
        exact ih (c + 1) _ (by omega) (by rw [hv, plcM]; first | rw [if_pos h19, Int64.or_zero] | rw [if_neg h19])
  refine wp_lconst (v := 0) dX4_cellsThatAre_0 rfl ?_
  refine wp_lstore_n (L' := [some (.ref b), some (.int (nI w)), some (.long _), none, none]) dX4_cellsThatAre_1 (by decide) rfl ?_
  refine wp_iconst (v := 0) dX4_cellsThatAre_2 (by decide) ?_
  refine wp_istore (L' := [some (.ref b), some (.int (nI w)), some (.long _), none, some (.int _)]) dX4_cellsThatAre_3 (by decide) rfl ?_
  exact loop 40 0 0 rfl rfl
