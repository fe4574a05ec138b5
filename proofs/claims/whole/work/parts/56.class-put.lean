/-! THE CLASS: signs put into the pad -/
theorem PutN.past {v : Int64} {q m : Nat} (h : PutN v q) (hz : ∀ k, k ≤ m → ¬ lg_cmp (by8 (rsN v k)) 0 = 0) : m < q := by
  rcases Nat.lt_or_ge m q with g | g
  · exact g
  · exfalso
    apply hz q g
    rw [lg_0.mp h.2.2.2.2]
    decide
theorem nL_inj {x z : Int64} (h : nL x = nL z) : x = z := Int64.toBitVec_inj.mp (BitVec.eq_of_toNat_eq h)
theorem nL_rsN (v : Int64) : ∀ k, nL (rsN v k) = nL v / 2 ^ (8 * k)
  | 0 => by rw [rsN, Nat.mul_zero, Nat.pow_zero, Nat.div_one]
  | k + 1 => by
    show nL (ushL (rsN v k) (nI 8)) = _
    rw [nL_ush _ (by omega), nL_rsN v k, Nat.div_div_eq_div_mul, ← Nat.pow_add, Nat.mul_succ]
theorem byt_rsN {v : Int64} {k : Nat} (h : k < 8) : byt v k = (by8 (rsN v k)).toInt32 := by
  have e : ushL v (8 * nI k) = rsN v k := by
    apply nL_inj
    show nL (ushL v (nI 8 * nI k)) = _
    rw [pk_mul, nL_ush _ (by omega), nL_rsN]
  unfold byt by8
  show (ushL v (8 * nI k) &&& 255).toInt32 = _
  rw [e]
theorem byF.nat {r : Int64} (h : byF r) : ∃ m, m < 127 ∧ (by8 r).toInt32 = nI m := by
  obtain ⟨j, h1, h2⟩ := nI_of2 (x := (by8 r).toInt32) (M := 126) (n := 126) (by decide) (fun g => by
    have := h.1
    simp only [Int32.lt_iff_toInt_lt, Int32.le_iff_toInt_le] at g this
    rw [show (0 : Int32).toInt = 0 by decide] at g
    rw [show (33 : Int32).toInt = 33 by decide] at this
    omega) h.2
  exact ⟨j, by omega, h2⟩
theorem chr_127 : ∀ m : Fin 127, vp_nar .char ((nI m.val).toUInt32 % 65536).toInt32 = nI m.val := by decide +kernel
theorem chr_byF {r : Int64} (h : byF r) : vp_nar .char ((by8 r).toInt32.toUInt32 % 65536).toInt32 = (by8 r).toInt32 := by
  obtain ⟨m, h1, h2⟩ := h.nat
  rw [h2]
  exact chr_127 ⟨m, h1⟩
theorem m1_lt : ∀ c : Fin 81, nI c.val - 1 < nI c.val := by decide +kernel
/-- the last j of n signs written behind pl -/
def crR (w : Nat → Int32) (pl n : Nat) (v : Int64) (j : Nat) : Nat → Int32 := fun i => if pl + n - j ≤ i ∧ i < pl + n then byt v (pl + n - 1 - i) else w i
theorem crR_0 (w : Nat → Int32) (pl n : Nat) (v : Int64) : crR w pl n v 0 = w := by
  funext i
  rw [crR, if_neg (by omega)]
theorem crR_s {w : Nat → Int32} {pl n j q : Nat} {v : Int64} (h : q + 1 + j = n) : up (crR w pl n v j) (pl + q) (byt v j) = crR w pl n v (j + 1) := by
  funext i
  by_cases hi : i = pl + q
  · subst hi
    rw [up_s, crR, if_pos (by omega), show pl + n - 1 - (pl + q) = j by omega]
  · rw [up_n _ _ hi, crR, crR]
    by_cases h2 : pl + n - j ≤ i ∧ i < pl + n
    · rw [if_pos h2, if_pos (by omega)]
    · rw [if_neg h2, if_neg (by omega)]
set_option maxRecDepth 100000 in
set_option maxHeartbeats 4000000 in
theorem s_X2_countOf {γ : Gm} {l : Launch} {M : Mm} {R : Rm} {K : KT} {v : Int64}  (hE : (∀ n, ¬ PutN v n) → K (some (.int (-2))) 243 M R) (hK : ∀ n, PutN v n → K (some (.int (nI n))) 243 M R) : CL γ l mX2_countOf 0 243 243 [.long v] M R K := by
  show WP γ l mX2_countOf 0 243 243 0 [some (.long v), none, none, none, none, none] [] 243 M R K
  have tell : ∀ (c : Nat) (z : Option Value), c ≤ 8 → (∀ k, k < c → ¬ lg_cmp (by8 (rsN v k)) 0 = 0) → (∀ k, k < c → byF (rsN v k)) → (c = 8 ∨ lg_cmp (by8 (rsN v c)) 0 = 0) → WP γ l mX2_countOf 0 243 243 56 [some (.long v), none, some (.int (nI c)), some (.long (rsN v c)), none, z] [] 243 M R K := by
    intro c z h8 hz hf hend
    refine wp_drop [some (.long v), none, some (.int (nI c)), some (.long (rsN v c)), none, none] (by simp [leL]) ?_
    refine wp_iload_n dX2_countOf_56 rfl ?_
    refine wp_ifN_eq (a := c) (tgt := 66) dX2_countOf_57 (by decide) rfl (by omega) (fun h57 => ?_) (fun h57 => ?_)
    · refine wp_bipush (v := (-2)) dX2_countOf_66 (by decide) ?_
      refine wp_goto (tgt := 72) dX2_countOf_68 (by decide) ?_
      exact wp_iret dX2_countOf_72 rfl rfl rfl (by first | exact hK c ⟨by omega, h8, hz, hf, h63⟩ | exact hE (fun q hq => by have e := hq.only h8 hz hend; subst e; first | exact absurd hq.1 (by omega) | exact h63 hq.2.2.2.2))
    · refine wp_lload_n dX2_countOf_60 rfl ?_
      refine wp_lconst (v := 0) dX2_countOf_61 rfl ?_
      refine wp_lcmp dX2_countOf_62 ?_
      refine wp_if_eq (tgt := 71) dX2_countOf_63 (by decide) (fun h63 => ?_) (fun h63 => ?_)
      · refine wp_iload_n dX2_countOf_71 rfl ?_
        exact wp_iret dX2_countOf_72 rfl rfl rfl (by first | exact hK c ⟨by omega, h8, hz, hf, h63⟩ | exact hE (fun q hq => by have e := hq.only h8 hz hend; subst e; first | exact absurd hq.1 (by omega) | exact h63 hq.2.2.2.2))
      · refine wp_bipush (v := (-2)) dX2_countOf_66 (by decide) ?_
        refine wp_goto (tgt := 72) dX2_countOf_68 (by decide) ?_
        exact wp_iret dX2_countOf_72 rfl rfl rfl (by first | exact hK c ⟨by omega, h8, hz, hf, h63⟩ | exact hE (fun q hq => by have e := hq.only h8 hz hend; subst e; first | exact absurd hq.1 (by omega) | exact h63 hq.2.2.2.2))
  have loop : ∀ (q c : Nat) (z : Option Value), q + c = 8 → (∀ k, k < c → ¬ lg_cmp (by8 (rsN v k)) 0 = 0) → (∀ k, k < c → byF (rsN v k)) → WP γ l mX2_countOf 0 243 243 4 [some (.long v), none, some (.int (nI c)), some (.long (rsN v c)), none, z] [] 243 M R K := by
    intro q
    induction q with
    | zero =>
      intro c z hq hz hf
      refine wp_drop [some (.long v), none, some (.int (nI c)), some (.long (rsN v c)), none, none] (by simp [leL]) ?_
      refine wp_iload_n dX2_countOf_4 rfl ?_
      refine wp_bipush (v := 8) dX2_countOf_5 (by decide) ?_
      refine wp_icN_ge (a := c) (b := 8) (tgt := 56) dX2_countOf_7 (by decide) rfl rfl (by omega) (by omega) (fun h7 => ?_) (fun h7 => absurd h7 (by omega))
      exact tell c _ (by omega) hz hf (Or.inl (by omega))
    | succ q ih =>
      intro c z hq hz hf
      refine wp_drop [some (.long v), none, some (.int (nI c)), some (.long (rsN v c)), none, none] (by simp [leL]) ?_
      refine wp_iload_n dX2_countOf_4 rfl ?_
      refine wp_bipush (v := 8) dX2_countOf_5 (by decide) ?_
      refine wp_icN_ge (a := c) (b := 8) (tgt := 56) dX2_countOf_7 (by decide) rfl rfl (by omega) (by omega) (fun h7 => absurd h7 (by omega)) (fun h7 => ?_)
      refine wp_lload_n dX2_countOf_10 rfl ?_
      refine wp_ldc2 (v := 255) dX2_countOf_11 q486 ?_
      refine wp_land dX2_countOf_14 ?_
      refine wp_lconst (v := 0) dX2_countOf_15 rfl ?_
      refine wp_lcmp dX2_countOf_16 ?_
      refine wp_if_eq (tgt := 56) dX2_countOf_17 (by decide) (fun h17 => ?_) (fun h17 => ?_)
      · exact tell c _ (by omega) hz hf (Or.inr h17)
      · have hz1 : ∀ k, k ≤ c → ¬ lg_cmp (by8 (rsN v k)) 0 = 0 := fun k hk => by
          by_cases e : k = c
          · subst e
            exact h17
          · exact hz k (by omega)
        refine wp_lload_n dX2_countOf_20 rfl ?_
        refine wp_ldc2 (v := 255) dX2_countOf_21 q486 ?_
        refine wp_land dX2_countOf_24 ?_
        refine wp_l2i dX2_countOf_25 ?_
        refine wp_istore (L' := [some (.long _), none, some (.int (nI c)), some (.long _), none, some (.int _)]) dX2_countOf_26 (by decide) rfl ?_
        refine wp_iload dX2_countOf_28 rfl ?_
        refine wp_bipush (v := 33) dX2_countOf_30 (by decide) ?_
        refine wp_icmp_lt (tgt := 42) dX2_countOf_32 (by decide) (fun h32 => ?_) (fun h32 => ?_)
        · refine wp_bipush (v := (-2)) dX2_countOf_42 (by decide) ?_
          exact wp_iret dX2_countOf_44 rfl rfl rfl (hE (fun m hm => by have := hm.2.2.2.1 c (hm.past hz1); first | exact absurd this.1 (Int32.not_le.mpr h32) | exact h39 this.2))
        · refine wp_iload dX2_countOf_35 rfl ?_
          refine wp_bipush (v := 126) dX2_countOf_37 (by decide) ?_
          refine wp_icmp_le (tgt := 45) dX2_countOf_39 (by decide) (fun h39 => ?_) (fun h39 => ?_)
          · refine wp_iinc (v := nI (c + 1)) (L' := [some (.long _), none, some (.int (nI (c + 1))), some (.long _), none, some (.int _)]) dX2_countOf_45 (by decide) rfl (inc_1 _) rfl ?_
            refine wp_lload_n dX2_countOf_48 rfl ?_
            refine wp_bipush (v := 8) dX2_countOf_49 (by decide) ?_
            refine wp_lushr dX2_countOf_51 ?_
            refine wp_lstore_n (L' := [some (.long _), none, some (.int (nI (c + 1))), some (.long _), none, some (.int _)]) dX2_countOf_52 (by decide) rfl ?_
            refine wp_goto (tgt := 4) dX2_countOf_53 (by decide) ?_
            exact ih (c + 1) _ (by omega) (fun k hk => hz1 k (by omega)) (fun k hk => by
              by_cases e : k = c
              · subst e
                exact ⟨Int32.not_lt.mp h32, h39⟩
              · exact hf k (by omega))
          · refine wp_bipush (v := (-2)) dX2_countOf_42 (by decide) ?_
            exact wp_iret dX2_countOf_44 rfl rfl rfl (hE (fun m hm => by have := hm.2.2.2.1 c (hm.past hz1); first | exact absurd this.1 (Int32.not_le.mpr h32) | exact h39 this.2))
  refine wp_iconst (v := 0) dX2_countOf_0 (by decide) ?_
  refine wp_istore_n (L' := [some (.long _), none, some (.int _), none, none, none]) dX2_countOf_1 (by decide) rfl ?_
  refine wp_lload_n dX2_countOf_2 rfl ?_
  refine wp_lstore_n (L' := [some (.long _), none, some (.int _), some (.long _), none, none]) dX2_countOf_3 (by decide) rfl ?_
  exact loop 8 0 _ rfl (fun k hk => absurd hk (by omega)) (fun k hk => absurd hk (by omega))

set_option maxRecDepth 100000 in
set_option maxHeartbeats 4000000 in
theorem s_X2_append {γ : Gm} {l : Launch} {M : Mm} {R : Rm} {K : KT} {pl : Nat} {v : Int64}  (hC : RC R) (hp : M 29 1 = nI pl) (hp80 : pl ≤ 80) (hE : (∀ n, ¬ PutN v n) → K (some (.int (-2))) 243 M R) (hE2 : ∀ n, PutN v n → ¬ pl + n ≤ 80 → K (some (.int (-4))) 243 M R) (hK : ∀ n, PutN v n → pl + n ≤ 80 → K (some (.int (nI (pl + n)))) 243 (u2 (up M 30 (crR (M 30) pl n v n)) 29 1 (nI (pl + n))) R) : CL γ l mX2_append 1 243 243 [.ref 29, .long v] M R K := by
  show WP γ l mX2_append 1 243 243 0 [some (.ref 29), some (.long v), none, none, none, none, none] [] 243 M R K
  have fill : ∀ m, PutN v m → pl + m ≤ 80 → ∀ (q j : Nat) (x : Int32), q + j = m → x = nI (pl + q) - 1 → WP γ l mX2_append 1 243 243 39 [some (.ref 29), some (.long v), none, some (.int (nI m)), some (.long (rsN v j)), none, some (.int x)] [] 243 (up M 30 (crR (M 30) pl m v j)) R K := by
    intro m hm hpm q
    have hl : ∀ w, (up M 30 w) 29 1 = nI pl := fun w => by rw [up_n _ _ (by decide)]; exact hp
    induction q with
    | zero =>
      intro j x hj hx
      obtain rfl : m = j := by omega
      refine wp_iload dX2_append_39 rfl ?_
      refine wp_aload_n dX2_append_41 rfl ?_
      refine wp_getJ (v := nI pl) fX2_19 tA_29 rfl (Nat.le_of_ble_eq_true rfl) dX2_append_42 (hl _) ?_
      refine wp_icmp_lt (tgt := 76) dX2_append_45 (by decide) (fun h45 => ?_) (fun h45 => absurd (by rw [hx]; exact m1_lt ⟨pl, by omega⟩) h45)
      refine wp_aload_n dX2_append_76 rfl ?_
      refine wp_dup dX2_append_77 rfl ?_
      refine wp_getJ (v := nI pl) fX2_19 tA_29 rfl (Nat.le_of_ble_eq_true rfl) dX2_append_78 (hl _) ?_
      refine wp_iload_n dX2_append_81 rfl ?_
      refine wp_iadd dX2_append_82 ?_
      refine wp_top (z := nI (pl + m)) (nI_add pl m) ?_
      refine wp_putI pX2_19 tA_29 rfl ⟨rfl, rfl⟩ (Nat.le_of_ble_eq_true rfl) dX2_append_83 ?_
      refine wp_aload_n dX2_append_86 rfl ?_
      refine wp_getJ (v := nI (pl + m)) fX2_19 tA_29 rfl (Nat.le_of_ble_eq_true rfl) dX2_append_87 ((by rw [u2_s, up_s] : _ = nI (pl + m))) ?_
      exact wp_iret dX2_append_90 rfl rfl rfl (hK m hm hpm)
    | succ q ih =>
      intro j x hj hx
      rw [show pl + (q + 1) = pl + q + 1 by omega, nI_m1] at hx
      subst hx
      refine wp_iload dX2_append_39 rfl ?_
      refine wp_aload_n dX2_append_41 rfl ?_
      refine wp_getJ (v := nI pl) fX2_19 tA_29 rfl (Nat.le_of_ble_eq_true rfl) dX2_append_42 (hl _) ?_
      refine wp_icN_lt (a := (pl + q)) (b := pl) (tgt := 76) dX2_append_45 (by decide) rfl rfl (by omega) (by omega) (fun h45 => absurd h45 (by omega)) (fun h45 => ?_)
      refine wp_aload_n dX2_append_48 rfl ?_
      refine wp_getQ fX2_9 tA_29 rfl hC.p (by decide) (Nat.le_of_ble_eq_true rfl) dX2_append_49 ?_
      refine wp_iload dX2_append_52 rfl ?_
      refine wp_lload dX2_append_54 rfl ?_
      refine wp_ldc2 (v := 255) dX2_append_56 q486 ?_
      refine wp_land dX2_append_59 ?_
      refine wp_l2i dX2_append_60 ?_
      refine wp_i2c dX2_append_61 ?_
      refine wp_cast (i := (pl + q)) rfl tA_30 (Nat.le_of_ble_eq_true rfl) (by rw [lA_30]; omega) (Nat.le_of_ble_eq_true rfl) dX2_append_62 ?_
      refine wp_mem (M' := up M 30 (crR (M 30) pl m v (j + 1))) (by rw [u2_up, ← crR_s hj, byt_rsN (show j < 8 by have := hm.2.1; omega)]; exact congrArg (fun z => up M 30 (up (crR (M 30) pl m v j) (pl + q) z)) (chr_byF (hm.2.2.2.1 j (by omega)))) ?_
      refine wp_lload dX2_append_63 rfl ?_
      refine wp_bipush (v := 8) dX2_append_65 (by decide) ?_
      refine wp_lushr dX2_append_67 ?_
      refine wp_lstore (L' := [some (.ref 29), some (.long _), none, some (.int (nI m)), some (.long _), none, some (.int (nI (pl + q)))]) dX2_append_68 (by decide) rfl ?_
      refine wp_iinc (v := nI (pl + q) - 1) (L' := [some (.ref 29), some (.long v), none, some (.int (nI m)), some (.long (rsN v (j + 1))), none, some (.int (nI (pl + q) - 1))]) dX2_append_70 (by decide) rfl (by rw [Int32.sub_eq_add_neg]; rfl) rfl ?_
      refine wp_goto (tgt := 39) dX2_append_73 (by decide) ?_
      exact ih (j + 1) _ (by omega) rfl
  by_cases hh : ∃ m, PutN v m
  · obtain ⟨m, hm⟩ := hh
    have h8 := hm.2.1
    have hone : ∀ m2, PutN v m2 → m2 = m := fun m2 h2 => h2.only h8 hm.2.2.1 (Or.inr (by rw [lg_0.mp hm.2.2.2.2]; decide))
    refine wp_lload_n dX2_append_0 rfl ?_
    refine wp_cS1 (z := mX2_countOf) (n' := 243) kX2_15 dX2_append_1 (Nat.le_of_ble_eq_true rfl) (Nat.le_of_ble_eq_true rfl) (Nat.le_of_ble_eq_true rfl) (Nat.le_refl _) (Nat.le_refl _) (s_X2_countOf (fun hn => absurd hm (hn m)) (fun m2 hm2 => (wp_af ?_)))
    obtain rfl := hone m2 hm2
    refine wp_istore_n (L' := [some (.ref 29), some (.long _), none, some (.int (nI m2)), none, none, none]) dX2_append_4 (by decide) rfl ?_
    refine wp_iload_n dX2_append_5 rfl ?_
    refine wp_ifN_ge (a := m2) (tgt := 12) dX2_append_6 (by decide) rfl (by omega) ?_
    refine wp_aload_n dX2_append_12 rfl ?_
    refine wp_getJ (v := nI pl) fX2_19 tA_29 rfl (Nat.le_of_ble_eq_true rfl) dX2_append_13 (hp) ?_
    refine wp_iload_n dX2_append_16 rfl ?_
    refine wp_iadd dX2_append_17 ?_
    refine wp_bipush (v := 80) dX2_append_18 (by decide) ?_
    refine wp_icN_le (a := (pl + m2)) (b := 80) (tgt := 26) dX2_append_20 (by decide) (ix_add rfl rfl) rfl (by omega) (by omega) (fun h20 => ?_) (fun h20 => ?_)
    · refine wp_lload_n dX2_append_26 rfl ?_
      refine wp_lstore (L' := [some (.ref 29), some (.long _), none, some (.int (nI m2)), some (.long _), none, none]) dX2_append_27 (by decide) rfl ?_
      refine wp_aload_n dX2_append_29 rfl ?_
      refine wp_getJ (v := nI pl) fX2_19 tA_29 rfl (Nat.le_of_ble_eq_true rfl) dX2_append_30 (hp) ?_
      refine wp_iload_n dX2_append_33 rfl ?_
      refine wp_iadd dX2_append_34 ?_
      refine wp_iconst (v := 1) dX2_append_35 (by decide) ?_
      refine wp_isub dX2_append_36 ?_
      refine wp_istore (L' := [some (.ref 29), some (.long _), none, some (.int (nI m2)), some (.long _), none, some (.int _)]) dX2_append_37 (by decide) rfl ?_
      have := fill m2 hm (by omega) m2 0 (nI (pl + m2) - 1) rfl rfl
      rw [crR_0, up_eta] at this
      refine wp_loc ?_ this
      rw [← nI_add]
      rfl
    · refine wp_bipush (v := (-4)) dX2_append_23 (by decide) ?_
      exact wp_iret dX2_append_25 rfl rfl rfl (hE2 m2 hm (by omega))
  · have hn : ∀ m, ¬ PutN v m := fun m hm => hh ⟨m, hm⟩
    refine wp_lload_n dX2_append_0 rfl ?_
    refine wp_cS1 (z := mX2_countOf) (n' := 243) kX2_15 dX2_append_1 (Nat.le_of_ble_eq_true rfl) (Nat.le_of_ble_eq_true rfl) (Nat.le_of_ble_eq_true rfl) (Nat.le_refl _) (Nat.le_refl _) (s_X2_countOf (fun _ => (wp_af ?_)) (fun m2 hm2 => absurd hm2 (hn m2)))
    refine wp_istore_n (L' := [some (.ref 29), some (.long _), none, some (.int (-2)), none, none, none]) dX2_append_4 (by decide) rfl ?_
    refine wp_iload_n dX2_append_5 rfl ?_
    refine wp_if_ge (tgt := 12) dX2_append_6 (by decide) (fun h6 => absurd h6 (by decide)) (fun h6 => ?_)
    refine wp_bipush (v := (-2)) dX2_append_9 (by decide) ?_
    exact wp_iret dX2_append_11 rfl rfl rfl (hE hn)

