/-! THE CLASS: its history -/
/-- the history's tanks, in whatever order -/
def RH (R : Rm) : Prop := (∀ i, i < 6 → ∃ k, k < 6 ∧ R 32 i = 33 + 20 * k) ∧ ∀ i j, i < 6 → j < 6 → R 32 i = R 32 j → i = j
def HI (M : Mm) (R : Rm) (rc : Nat) (hs : Nat → Nat → Int32) : Prop := M 31 1 = nI rc ∧ ∀ i, i < rc → Tk M R (R 32 i) (nP (hs i)) (nG (hs i)) (hs i)
def rcN (rc : Nat) : Nat := if rc = 6 then 6 else rc + 1
def pshH (rc : Nat) (hs : Nat → Nat → Int32) (sg : Nat → Int32) : Nat → Nat → Int32 := fun i => if i = (if rc = 6 then 5 else rc) then sg else hs (if rc = 6 then i + 1 else i)
theorem Tb.hist {k : Nat} (h : k < 6) : Tb (33 + 20 * k) := by
  unfold Tb
  omega
theorem RH.tb {R : Rm} (h : RH R) {i : Nat} (hi : i < 6) : Tb (R 32 i) := by
  obtain ⟨k, hk, e⟩ := h.1 i hi
  rw [e]
  exact Tb.hist hk
theorem RH.rng {R : Rm} (h : RH R) {i : Nat} (hi : i < 6) : 33 ≤ R 32 i ∧ R 32 i + 20 ≤ 153 := by
  obtain ⟨k, hk, e⟩ := h.1 i hi
  omega
theorem RH.far {R : Rm} (h : RH R) {i j : Nat} (hi : i < 6) (hj : j < 6) (hn : i ≠ j) : R 32 i + 20 ≤ R 32 j ∨ R 32 j + 20 ≤ R 32 i := by
  obtain ⟨k, hk, e⟩ := h.1 i hi
  obtain ⟨m, hm, e2⟩ := h.1 j hj
  have : ¬ R 32 i = R 32 j := fun q => hn (h.2 i j hi hj q)
  omega
def rtk (w : Nat → Nat) (k : Nat) : Nat → Nat := fun j => if j + 1 < k then w (j + 1) else w j
def rot (w : Nat → Nat) : Nat → Nat := fun j => if j = 5 then w 0 else if j < 5 then w (j + 1) else w j
theorem rtk_s (w : Nat → Nat) {k : Nat} (h : 1 ≤ k) : up (rtk w k) (k - 1) (w k) = rtk w (k + 1) := by
  funext i
  by_cases e : i = k - 1
  · subst e
    rw [up_s, rtk, if_pos (by omega), show k - 1 + 1 = k by omega]
  · rw [up_n _ _ e, rtk, rtk]
    by_cases e2 : i + 1 < k
    · rw [if_pos e2, if_pos (by omega)]
    · rw [if_neg e2, if_neg (by omega)]
theorem rtk_1 (w : Nat → Nat) : rtk w 1 = w := by
  funext i
  rw [rtk, if_neg (by omega)]
theorem rtk_6 (w : Nat → Nat) : up (rtk w 6) 5 (w 0) = rot w := by
  funext i
  rw [rot]
  by_cases e : i = 5
  · rw [e, up_s, if_pos rfl]
  · rw [up_n _ _ e, if_neg e, rtk]
    by_cases e2 : i < 5
    · rw [if_pos (by omega), if_pos e2]
    · rw [if_neg (by omega), if_neg e2]
theorem RH.rots {R R1 : Rm} (h : RH R) (e : R1 32 = rot (R 32)) : RH R1 := by
  have k : ∀ i, i < 6 → R1 32 i = R 32 (if i = 5 then 0 else i + 1) := fun i hi => by
    rw [e, rot]
    by_cases g : i = 5
    · rw [if_pos g, if_pos g]
    · rw [if_neg g, if_neg g, if_pos (by omega)]
  refine ⟨fun i hi => by rw [k i hi]; exact h.1 _ (by split <;> omega), fun i j hi hj q => ?_⟩
  rw [k i hi, k j hj] at q
  have := h.2 _ _ (by split <;> omega) (by split <;> omega) q
  split at this <;> split at this <;> omega
set_option maxRecDepth 100000 in
set_option maxHeartbeats 4000000 in
theorem s_X1_dropOldest {γ : Gm} {l : Launch} {M : Mm} {R : Rm} {K : KT}  (h0 : R 31 0 = 32) (hH : RH R) (hK : K none 247 (u2 M 31 1 (nI 5)) (up R 32 (rot (R 32))))  : CL γ l mX1_dropOldest 0 247 247 [.ref 31] M R K := by
  show WP γ l mX1_dropOldest 0 247 247 0 [some (.ref 31), none, none] [] 247 M R K
  obtain ⟨v0, hv0⟩ : ∃ v0, v0 = R 32 0 := ⟨_, rfl⟩
  have hT : Tb v0 := by rw [hv0]; exact hH.tb (by omega)
  have hv1 : 33 ≤ v0 := by rw [hv0]; exact (hH.rng (by omega)).1
  have h0' : ∀ f, (up R 32 f) 31 0 = 32 := fun f => by rw [up_n _ _ (by omega)]; exact h0
  have loop : ∀ (q k : Nat), q + k = 6 → 1 ≤ k → WP γ l mX1_dropOldest 0 247 247 9 [some (.ref 31), some (.ref v0), some (.int (nI k))] [] 247 M (up R 32 (rtk (R 32) k)) K := by
    intro q
    induction q with
    | zero =>
      intro k hq hk
      obtain rfl : k = 6 := by omega
      refine wp_iload_n dX1_dropOldest_9 rfl ?_
      refine wp_bipush (v := 6) dX1_dropOldest_10 (by decide) ?_
      refine wp_icN_ge (a := 6) (b := 6) (tgt := 35) dX1_dropOldest_12 (by decide) rfl rfl (by omega) (by omega) (fun h12 => ?_) (fun h12 => absurd h12 (by omega))
      refine wp_aload_n dX1_dropOldest_35 rfl ?_
      refine wp_getQ fX1_11 tA_31 rfl (h0' _) (by decide) (Nat.le_of_ble_eq_true rfl) dX1_dropOldest_36 ?_
      refine wp_iconst (v := 5) dX1_dropOldest_39 (by decide) ?_
      refine wp_aload_n dX1_dropOldest_40 rfl ?_
      refine wp_aast (i := 5) rfl (by rw [tA_32]; decide) (by rw [lA_32]; omega) ((hT.t0.1).trans (by rw [tA_32]; rfl)) (Nat.le_of_ble_eq_true rfl) (by have := hT.lt; omega) dX1_dropOldest_41 ?_
      refine wp_aload_n dX1_dropOldest_42 rfl ?_
      refine wp_iconst (v := 5) dX1_dropOldest_43 (by decide) ?_
      refine wp_putI pX1_18 tA_31 rfl ⟨rfl, rfl⟩ (Nat.le_of_ble_eq_true rfl) dX1_dropOldest_44 ?_
      exact wp_vret dX1_dropOldest_47 rfl rfl (by rw [u2_up, hv0, rtk_6]; exact hK)
    | succ q ih =>
      intro k hq hk
      obtain ⟨w, hw⟩ : ∃ w, w = R 32 k := ⟨_, rfl⟩
      have hw1 : 33 ≤ w := by rw [hw]; exact (hH.rng (by omega)).1
      have hU : Tb w := by rw [hw]; exact hH.tb (by omega)
      refine wp_iload_n dX1_dropOldest_9 rfl ?_
      refine wp_bipush (v := 6) dX1_dropOldest_10 (by decide) ?_
      refine wp_icN_ge (a := k) (b := 6) (tgt := 35) dX1_dropOldest_12 (by decide) rfl rfl (by omega) (by omega) (fun h12 => absurd h12 (by omega)) (fun h12 => ?_)
      refine wp_aload_n dX1_dropOldest_15 rfl ?_
      refine wp_getQ fX1_11 tA_31 rfl (h0' _) (by decide) (Nat.le_of_ble_eq_true rfl) dX1_dropOldest_16 ?_
      refine wp_iload_n dX1_dropOldest_19 rfl ?_
      refine wp_iconst (v := 1) dX1_dropOldest_20 (by decide) ?_
      refine wp_isub dX1_dropOldest_21 ?_
      refine wp_aload_n dX1_dropOldest_22 rfl ?_
      refine wp_getQ fX1_11 tA_31 rfl (h0' _) (by decide) (Nat.le_of_ble_eq_true rfl) dX1_dropOldest_23 ?_
      refine wp_iload_n dX1_dropOldest_26 rfl ?_
      refine wp_aalq (i := k) rfl (by rw [tA_32]; decide) (by rw [lA_32]; omega) ((by rw [up_s, rtk, if_neg (by omega)]; exact hw.symm : (up R 32 (rtk (R 32) k)) 32 k = w)) (by omega) (Nat.le_of_ble_eq_true rfl) dX1_dropOldest_27 ?_
      refine wp_aast (i := (k - 1)) (ix_sub (a := k) (b := 1) rfl rfl (by omega)) (by rw [tA_32]; decide) (by rw [lA_32]; omega) ((hU.t0.1).trans (by rw [tA_32]; rfl)) (Nat.le_of_ble_eq_true rfl) (by have := hU.lt; omega) dX1_dropOldest_28 ?_
      refine wp_iinc (v := nI (k + 1)) (L' := [some (.ref 31), some (.ref v0), some (.int (nI (k + 1)))]) dX1_dropOldest_29 (by decide) rfl (inc_1 _) rfl ?_
      refine wp_goto (tgt := 9) dX1_dropOldest_32 (by decide) ?_
      rw [u2_up, hw, rtk_s _ hk]
      exact ih (k + 1) (by omega) (by omega)
  refine wp_aload_n dX1_dropOldest_0 rfl ?_
  refine wp_getQ fX1_11 tA_31 rfl h0 (by decide) (Nat.le_of_ble_eq_true rfl) dX1_dropOldest_1 ?_
  refine wp_iconst (v := 0) dX1_dropOldest_4 (by decide) ?_
  refine wp_aalq (i := 0) rfl (by rw [tA_32]; decide) (by rw [lA_32]; omega) (hv0.symm) (by omega) (Nat.le_of_ble_eq_true rfl) dX1_dropOldest_5 ?_
  refine wp_astore_n (L' := [some (.ref 31), some (.ref v0), none]) dX1_dropOldest_6 (by decide) rfl ?_
  refine wp_iconst (v := 1) dX1_dropOldest_7 (by decide) ?_
  refine wp_istore_n (L' := [some (.ref 31), some (.ref v0), some (.int _)]) dX1_dropOldest_8 (by decide) rfl ?_
  have := loop 5 1 rfl (by omega)
  rw [rtk_1, up_eta] at this
  exact this
