/-! THE REFERENCE: a text carried out -/
/-- the orders from a on carried out in a state: how many, and the state behind them -/
def cyF (tx : Nat → Int32) (pl : Nat) : Nat → Nat → (Nat → Int32) → Nat × (Nat → Int32)
  | 0, _, sg => (0, sg)
  | q + 1, a, sg =>
    if a < pl then
      match (rdO tx pl a).1 with
      | none => (0, sg)
      | some (k, t, s, v, p, f) =>
        if cdF sg k t s v p f = true then
          ((cyF tx pl q (if nx tx pl (rdO tx pl a).2 59 then (rdO tx pl a).2 + 1 else (rdO tx pl a).2) (doF sg k t s v p f)).1 + 1, (cyF tx pl q (if nx tx pl (rdO tx pl a).2 59 then (rdO tx pl a).2 + 1 else (rdO tx pl a).2) (doF sg k t s v p f)).2)
        else (0, sg)
    else (0, sg)
theorem PS.base {M0 M M2 : Mm} {tx nb : Nat → Int32} {pl a m rc : Nat} {lt so : Int32} (h : PS M0 M tx pl a m nb lt so) (h2 : HP M M2 rc) : PS M2 M2 tx pl a m nb lt so :=
  ⟨fun _ _ _ => rfl, fun _ _ _ _ _ => rfl, by rw [h2.1 _ (by decide) (by decide)]; exact h.ptx, by rw [h2.2.1 _ (by decide)]; exact h.ppl, by rw [h2.2.1 _ (by decide)]; exact h.pa, by rw [h2.2.1 _ (by decide)]; exact h.pm, by rw [h2.1 _ (by decide) (by decide)]; exact h.pnb, by rw [h2.2.1 _ (by decide)]; exact h.plt, by rw [h2.2.1 _ (by decide)]; exact h.pso⟩
theorem OM.next {M0 M M1 : Mm} {tx nb : Nat → Int32} {pl a b m k t s p f : Nat} {lt so v : Int32} (h : OM M k t s v p f) (h1 : PS M0 M tx pl a m nb lt so) (h2 : PS M0 M1 tx pl b m nb lt so) : OM M1 k t s v p f := by
  unfold OM at *
  rw [h2.plt, h2.pnb, h2.pso]
  rw [h1.plt, h1.pnb, h1.pso] at h
  exact h
theorem PS.u236 {M0 M : Mm} {tx nb X : Nat → Int32} {pl a m : Nat} {lt so : Int32} (h : PS M0 M tx pl a m nb lt so) : PS (up M0 236 X) (up M 236 X) tx pl a m nb lt so := by
  obtain ⟨h1, h2, h3, h4, h5, h6, h7, h8, h9⟩ := h
  refine ⟨fun q q1 q2 => ?_, fun k k1 k2 k3 k4 => by rw [up_n _ _ (by decide), up_n _ _ (by decide)]; exact h2 k k1 k2 k3 k4, by rw [up_n _ _ (by decide)]; exact h3, by rw [up_n _ _ (by decide)]; exact h4, by rw [up_n _ _ (by decide)]; exact h5, by rw [up_n _ _ (by decide)]; exact h6, by rw [up_n _ _ (by decide)]; exact h7, by rw [up_n _ _ (by decide)]; exact h8, by rw [up_n _ _ (by decide)]; exact h9⟩
  by_cases e : q = 236
  · subst e
    rw [up_s, up_s]
  · rw [up_n _ _ e, up_n _ _ e]
    exact h1 q q1 q2
theorem rdR_e (tx : Nat → Int32) (pl a : Nat) : (rdR tx pl a).2 ≤ a + 20 := by
  unfold rdR
  split
  · exact Nat.le_add_right _ _
  · rename_i t a1 e1
    have b1 := rdN_in e1
    split
    · show a1 ≤ _
      omega
    · rename_i s e2
      split
      · have := vF_in tx pl (a1 + 1)
        show vF tx pl (a1 + 1) ≤ _
        omega
      · rename_i v a2 e3
        have b3 := rdV_in e3
        split
        · split
          · show a2 + 1 ≤ _
            omega
          · rename_i p a3 e5
            have b5 := rdN_in e5
            split
            · split
              · show a3 + 1 ≤ _
                omega
              · rename_i f a4 e7
                have b7 := rdN_in e7
                show a4 ≤ _
                omega
            · show a3 ≤ _
              omega
        · show a2 ≤ _
          omega
theorem rdO_e (tx : Nat → Int32) (pl a : Nat) : (rdO tx pl a).2 ≤ a + 30 := by
  unfold rdO
  split
  · have := rdR_e tx pl (a + 1)
    show (rdR tx pl (a + 1)).2 ≤ _
    omega
  · split
    · split
      · show a + 1 ≤ _
        omega
      · rename_i t a1 e1
        have b1 := rdN_in e1
        split
        · split
          · have := vF_in tx pl (a1 + 1)
            show vF tx pl (a1 + 1) ≤ _
            omega
          · rename_i v a2 e3
            have b3 := rdV_in e3
            show a2 ≤ _
            omega
        · show a1 ≤ _
          omega
    · split
      · split
        · show a + 1 ≤ _
          omega
        · rename_i t a1 e1
          have b1 := rdN_in e1
          show a1 ≤ _
          omega
      · show a ≤ _
        omega
theorem nI_m6 {e : Nat} (h : e < 1000) : ¬ nI e = -6 := fun q => by
  have := congrArg Int32.toInt q
  rw [nI_toInt (by omega), show (-6 : Int32).toInt = -6 by decide] at this
  omega
theorem ffF_go {tx : Nat → Int32} {pl q a : Nat} (ha : a ≤ 100) (h : ffF tx pl (q + 1) a = -6) : ∃ o, (rdO tx pl a).1 = some o ∧ ((rdO tx pl a).2 = pl ∨ (nx tx pl (rdO tx pl a).2 59 ∧ ffF tx pl q ((rdO tx pl a).2 + 1) = -6)) := by
  have hb := rdO_e tx pl a
  rw [ffF] at h
  by_cases h1 : (rdO tx pl a).1.isSome = true
  · rw [if_pos h1] at h
    obtain ⟨o, ho⟩ := some_of h1
    refine ⟨o, ho, ?_⟩
    by_cases h2 : (rdO tx pl a).2 = pl
    · exact Or.inl h2
    · rw [if_neg h2] at h
      by_cases h3 : nx tx pl (rdO tx pl a).2 59
      · rw [if_pos h3] at h
        exact Or.inr ⟨h3, h⟩
      · rw [if_neg h3] at h
        exact absurd h (nI_m6 (by omega))
  · rw [if_neg h1] at h
    exact absurd h (nI_m6 (by omega))
theorem nI_ex (x : Int32) : ∃ n, x = nI n := ⟨x.toUInt32.toNat, by
  rw [nI, Int32.ofNat]
  simp⟩
set_option maxRecDepth 100000 in
set_option maxHeartbeats 4000000 in
theorem s_X6_carryOut {γ : Gm} {l : Launch} {M : Mm} {R : Rm} {K : KT} {tx nb : Nat → Int32} {pl a m rc : Nat} {lt so : Int32} {sg : Nat → Int32}  (hs : M 236 = sg) (hM : RM R) (hOk : OkS sg) (hrc : M 235 3 = nI rc) (h6 : rc ≤ 6) (hX : PS M M tx pl a m nb lt so) (hp : pl ≤ 80) (hE : ¬ ffF tx pl 82 0 = -6 → ∀ M1 e m nb lt so, PS M M1 tx pl e m nb lt so → K (some (.int (-3))) 243 M1 R) (hK : ffF tx pl 82 0 = -6 → ∀ M1 e1 m1 nb1 lt1 so1 M2 M3 e m nb lt so, PS M M1 tx pl e1 m1 nb1 lt1 so1 → HP M1 M2 rc → PS (up M2 236 (cyF tx pl 82 0 sg).2) M3 tx pl e m nb lt so → K (some (.int (nI (cyF tx pl 82 0 sg).1))) 243 (u2 M3 235 7 0) R) : CL γ l mX6_carryOut 7 243 243 [.ref 235] M R K := by
  show WP γ l mX6_carryOut 7 243 243 0 [some (.ref 235), none, none] [] 243 M R K
  refine wp_aload_n dX6_carryOut_0 rfl ?_
  refine wp_cV0 (z := mX6_findFault) (n' := 243) kX6_204 dX6_carryOut_1 (Nat.le_of_ble_eq_true rfl) (Nat.le_of_ble_eq_true rfl) tA_235 (Nat.le_of_ble_eq_true rfl) (Nat.le_of_ble_eq_true rfl) (Nat.le_refl _) (Nat.le_refl _) (s_X6_findFault hM hX hp (fun M1 m1 nb1 lt1 so1 e1 h1 => (wp_af ?_)))
  refine wp_bipush (v := (-6)) dX6_carryOut_4 (by decide) ?_
  refine wp_icmp_eq (tgt := 12) dX6_carryOut_6 (by decide) (fun h6a => ?_) (fun h6a => ?_)
  · have hK := hK h6a
    refine wp_aload_n dX6_carryOut_12 rfl ?_
    refine wp_cV0 (z := mX6_record) (n' := 243) kX6_84 dX6_carryOut_13 (Nat.le_of_ble_eq_true rfl) (Nat.le_of_ble_eq_true rfl) tA_235 (Nat.le_of_ble_eq_true rfl) (Nat.le_of_ble_eq_true rfl) (Nat.le_refl _) (Nat.le_refl _) (s_X6_record hM ((h1.2.1 3 (by decide) (by decide) (by decide) (by decide)).trans hrc) h6 (fun M2 h2 => (wp_af0 ?_)))
    refine wp_iconst (v := 0) dX6_carryOut_16 (by decide) ?_
    refine wp_istore_n (L' := [some (.ref 235), some (.int _), none]) dX6_carryOut_17 (by decide) rfl ?_
    refine wp_aload_n dX6_carryOut_18 rfl ?_
    refine wp_iconst (v := 0) dX6_carryOut_19 (by decide) ?_
    have h3 := h1.base h2
    have s2 : M2 236 = sg := (h2.1 236 (by decide) (by decide)).trans ((h1.1 236 (by decide) (by decide)).trans hs)
    have out : ∀ (M3 : Mm) (e m nb lt so) (cn : Nat) (x : Option Value), cn = (cyF tx pl 82 0 sg).1 → PS (up M2 236 (cyF tx pl 82 0 sg).2) M3 tx pl e m nb lt so → WP γ l mX6_carryOut 7 243 243 71 [some (.ref 235), some (.int (nI cn)), x] [] 243 M3 R K := by
      intro M3 e m nb lt so cn x hcn h4
      refine wp_drop [some (.ref 235), some (.int (nI cn)), none] (by simp [leL]) ?_
      refine wp_aload_n dX6_carryOut_71 rfl ?_
      refine wp_iconst (v := 0) dX6_carryOut_72 (by decide) ?_
      refine wp_putI pX6_162 tA_235 rfl ⟨rfl, rfl⟩ (Nat.le_of_ble_eq_true rfl) dX6_carryOut_73 ?_
      refine wp_iload_n dX6_carryOut_76 rfl ?_
      exact wp_iret dX6_carryOut_77 rfl rfl rfl (by rw [hcn]; exact hK M1 _ _ _ _ _ M2 M3 _ _ _ _ _ h1 h2 h4)
    have loop : ∀ (q b cn : Nat) (sc : Nat → Int32) (M3 : Mm) (m : Nat) (nb : Nat → Int32) (lt so x : Int32), ¬ x = 0 → b ≤ pl → pl - b < q → (b < pl → ffF tx pl q b = -6) → OkS sc → (cn + (cyF tx pl q b sc).1, (cyF tx pl q b sc).2) = cyF tx pl 82 0 sg → PS (up M2 236 sc) M3 tx pl b m nb lt so → WP γ l mX6_carryOut 7 243 243 25 [some (.ref 235), some (.int (nI cn)), some (.int x)] [] 243 M3 R K := by
      intro q
      induction q with
      | zero => intro b cn sc M3 m nb lt so x _ _ h; omega
      | succ q ih =>
        intro b cn sc M3 m nb lt so x hx hb hq hff hsc hcy h4
        rw [cyF] at hcy
        refine wp_iload_n dX6_carryOut_25 rfl ?_
        refine wp_if_eq (tgt := 71) dX6_carryOut_26 (by decide) (fun h26 => absurd h26 hx) (fun h26 => ?_)
        refine wp_aload_n dX6_carryOut_29 rfl ?_
        refine wp_getJ (v := nI b) fX6_167 tA_235 rfl (Nat.le_of_ble_eq_true rfl) dX6_carryOut_30 (h4.pa) ?_
        refine wp_aload_n dX6_carryOut_33 rfl ?_
        refine wp_getJ (v := nI pl) fX6_162 tA_235 rfl (Nat.le_of_ble_eq_true rfl) dX6_carryOut_34 (h4.ppl) ?_
        refine wp_icN_ge (a := b) (b := pl) (tgt := 71) dX6_carryOut_37 (by decide) rfl rfl (by omega) (by omega) (fun h37 => ?_) (fun h37 => ?_)
        · rw [if_neg (by omega)] at hcy
          exact out M3 _ _ _ _ _ cn _ (congrArg Prod.fst hcy) (by rw [show (cyF tx pl 82 0 sg).2 = sc from (congrArg Prod.snd hcy).symm]; exact h4)
        · rw [if_pos h37] at hcy
          obtain ⟨⟨k, t, s, v, p, f⟩, hro, hgo⟩ := ffF_go (by omega) (hff h37)
          have hbd := rdO_bd (show rdO tx pl b = (some (k, t, s, v, p, f), (rdO tx pl b).2) by rw [← hro])
          have hin := rdO_in (show rdO tx pl b = (some (k, t, s, v, p, f), (rdO tx pl b).2) by rw [← hro])
          rw [hro] at hcy
          dsimp only at hcy
          refine wp_aload_n dX6_carryOut_40 rfl ?_
          refine wp_cV0 (z := mX6_readsOrder) (n' := 243) kX6_201 dX6_carryOut_41 (Nat.le_of_ble_eq_true rfl) (Nat.le_of_ble_eq_true rfl) tA_235 (Nat.le_of_ble_eq_true rfl) (Nat.le_of_ble_eq_true rfl) (Nat.le_refl _) (Nat.le_refl _) (s_X6_readsOrder hM h4 hp (by omega) (fun M4 hX4 => (wp_af ?_)))
          have hOM := hX4.om hro
          obtain ⟨m4, nb4, lt4, so4, h5, h5b⟩ := hX4
          refine wp_pop dX6_carryOut_44 rfl ?_
          refine wp_aload_n dX6_carryOut_45 rfl ?_
          refine wp_bipush (v := 59) dX6_carryOut_46 (by decide) ?_
          refine wp_cV1 (z := mX6_isNext) (n' := 243) kX6_180 dX6_carryOut_48 (Nat.le_of_ble_eq_true rfl) (Nat.le_of_ble_eq_true rfl) tA_235 (Nat.le_of_ble_eq_true rfl) (Nat.le_of_ble_eq_true rfl) (Nat.le_refl _) (Nat.le_refl _) (s_X6_isNext hM h5 hp (by have := rdO_e tx pl b; omega) (by decide) (fun M5 h6b => (wp_af ?_)))
          replace hOM : OM M5 k t s v p f := hOM.next h5 h6b
          have s5 : M5 236 = sc := (h6b.1 236 (by decide) (by decide)).trans (up_s _ _ _)
          refine wp_pop dX6_carryOut_51 rfl ?_
          refine wp_aload_n dX6_carryOut_52 rfl ?_
          refine wp_cV0 (z := mX6_canDo) (n' := 243) kX6_207 dX6_carryOut_53 (Nat.le_of_ble_eq_true rfl) (Nat.le_of_ble_eq_true rfl) tA_235 (Nat.le_of_ble_eq_true rfl) (Nat.le_of_ble_eq_true rfl) (Nat.le_refl _) (Nat.le_refl _) (s_X6_canDo s5 hM hsc.1 hOM hin.2.2 (wp_af ?_))
          refine wp_istore_n (L' := [some (.ref 235), some (.int (nI cn)), some (.int _)]) dX6_carryOut_56 (by decide) rfl ?_
          refine wp_iload_n dX6_carryOut_57 rfl ?_
          refine wp_bq_eq (tgt := 25) dX6_carryOut_58 (by decide) (fun h58 => ?_) (fun h58 => ?_)
          · rw [if_neg h58] at hcy
            refine wp_iload_n dX6_carryOut_25 rfl ?_
            refine wp_bq_eq (tgt := 71) dX6_carryOut_26 (by decide) (fun _ => ?_) (fun h => absurd h h58)
            exact out M5 _ _ _ _ _ cn _ (congrArg Prod.fst hcy) (by rw [show (cyF tx pl 82 0 sg).2 = sc from (congrArg Prod.snd hcy).symm]; exact h6b)
          · rw [if_pos h58] at hcy
            refine wp_aload_n dX6_carryOut_61 rfl ?_
            refine wp_cV0 (z := mX6_does) (n' := 243) kX6_210 dX6_carryOut_62 (Nat.le_of_ble_eq_true rfl) (Nat.le_of_ble_eq_true rfl) tA_235 (Nat.le_of_ble_eq_true rfl) (Nat.le_of_ble_eq_true rfl) (Nat.le_refl _) (Nat.le_refl _) (s_X6_does s5 hM hsc.1 hOM hin.2.2 hbd.1 h58 (wp_af0 ?_))
            refine wp_iinc (v := nI (cn + 1)) (L' := [some (.ref 235), some (.int (nI (cn + 1))), some (.int _)]) dX6_carryOut_65 (by decide) rfl (inc_1 _) rfl ?_
            refine wp_goto (tgt := 25) dX6_carryOut_68 (by decide) ?_
            have h7 := h6b.u236 (X := doF sc k t s v p f)
            rw [up_up] at h7
            refine ih _ (cn + 1) _ _ _ _ _ _ _ (by rw [b01_1]; exact h58) ?_ ?_ ?_ (hsc.kdo hin.2.2 hbd.1 hbd.2 h58) ?_ h7
            · split
              · rename_i g; exact g.1
              · exact hin.2.1
            · split <;> omega
            · intro hlt
              rcases hgo with g | g
              · rw [g, if_neg (by omega)] at hlt
                omega
              · rw [if_pos g.1]
                exact g.2
            · rw [← hcy, Nat.add_assoc, Nat.add_comm 1]
    refine wp_putI pX6_167 tA_235 rfl ⟨rfl, rfl⟩ (Nat.le_of_ble_eq_true rfl) dX6_carryOut_20 ?_
    refine wp_iconst (v := 1) dX6_carryOut_23 (by decide) ?_
    refine wp_istore_n (L' := [some (.ref 235), some (.int _), some (.int _)]) dX6_carryOut_24 (by decide) rfl ?_
    refine loop 82 0 0 sg _ m1 nb1 lt1 so1 1 (by decide) (by omega) (by omega) (fun _ => h6a) hOk (by rw [Nat.zero_add]) ?_
    rw [show up M2 236 sg = M2 by rw [← s2, up_eta]]
    exact h3.u8 0
  · refine wp_bipush (v := (-3)) dX6_carryOut_9 (by decide) ?_
    exact wp_iret dX6_carryOut_11 rfl rfl rfl (hE h6a M1 _ _ _ _ _ h1)

