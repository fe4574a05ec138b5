/-! THE LAW: calls of texts, undo and saved states -/
theorem HP.hs {M M1 M2 : Mm} {rc : Nat} (hp : HP M1 M2 rc) (e6 : M1 236 = M 236) (e8 : M1 238 = M 238) : ∀ i, i < rcN rc → ∀ j, j < 370 → M2 238 (370 * i + j) = pshH rc (hsR M) (M 236) i j := by
  obtain ⟨g1, g2, g3, g4, g5⟩ := hp
  intro i hi j hj
  show _ = (if i = (if rc = 6 then 5 else rc) then M 236 else hsR M (if rc = 6 then i + 1 else i)) j
  unfold rcN at hi
  by_cases e : rc = 6
  · subst e
    rw [if_pos rfl] at hi g5 g4
    rw [if_pos rfl, if_pos rfl]
    by_cases e2 : i = 5
    · subst e2
      rw [if_pos rfl, g5 j hj, e6]
    · have := g4 i j hj (by omega)
      rw [if_pos rfl] at this
      rw [if_neg e2, this, e8]
      rfl
  · rw [if_neg e] at hi g5 g4
    rw [if_neg e, if_neg e]
    by_cases e2 : i = rc
    · subst e2
      rw [if_pos rfl, g5 j hj, e6]
    · have := g4 i j hj (by omega)
      rw [if_neg e] at this
      rw [if_neg e2, this, e8]
      rfl
theorem cpy_at (f g : Nat → Int32) (q : Nat) {j : Nat} (hj : j < 370) : va_cpy f g q 0 370 j = f (q + j) := by
  rw [va_cpy, if_pos (by omega)]
  simp
theorem cpy_to (f g : Nat → Int32) (q : Nat) {j : Nat} (hj : j < 370) : va_cpy f g 0 q 370 (q + j) = f j := by
  rw [va_cpy, if_pos (by omega)]
  congr 1
  omega
theorem cpy_out (f g : Nat → Int32) (q : Nat) {j : Nat} (hj : j < q ∨ q + 370 ≤ j) : va_cpy f g 0 q 370 j = g j := by
  rw [va_cpy, if_neg (by omega)]
theorem PS.ex {M1 : Mm} {tx : Nat → Int32} {pl : Nat} (h1 : M1 241 = tx) (h2 : M1 235 7 = nI pl) : ∃ a m nb lt sx, PS M1 M1 tx pl a m nb lt sx := by
  obtain ⟨a, ha⟩ := nI_ex (M1 235 8)
  obtain ⟨m, hm⟩ := nI_ex (M1 235 12)
  exact ⟨a, m, _, _, _, fun _ _ _ => rfl, fun _ _ _ _ _ => rfl, h1, h2, ha, hm, rfl, rfl, rfl⟩
set_option maxRecDepth 100000 in
set_option maxHeartbeats 4000000 in
theorem lc_16 {γ : Gm} {l : Launch} {M : Mm} {R : Rm} {K : KT} {k : Nat} (hk : k + 6 ≤ γ.2.2.2.2.1) (hL : γ.2.2.2.2.1 ≤ 3072) (hI : Inv M R) (hK : ∀ M3 R1, Inv M3 R1 → WP γ l mL_law 8 8 243 790 [some (.ref 4), some (.ref 8), some (.ref 235), some (.int (nI k))] [] 243 M3 R1 K) : WP γ l mL_law 8 8 243 639 [some (.ref 4), some (.ref 8), some (.ref 235), some (.int (nI k))] [] 243 M R K := by
  obtain ⟨rc, pl, hrc, hpl, hM, hc⟩ := hI
  have h6 := hc.ib.h6
  have hn4 := hc.ok.n4
  have hn5 := hc.ok.n5
  have hp6 := hc.ok.p6
  have hg4 := hc.ok.g4
  have hp80 := hc.ib.p80
  refine wp_aload_n dL_law_639 rfl ?_
  refine wp_aload_n dL_law_640 rfl ?_
  refine wp_iload_n dL_law_641 rfl ?_
  refine wp_iconst (v := 1) dL_law_642 (by decide) ?_
  refine wp_iadd dL_law_643 ?_
  refine wp_sld (i := (k + 1)) (ix_add rfl rfl) (by omega) (by omega) dL_law_644 ?_
  refine wp_i2l dL_law_645 ?_
  refine wp_bipush (v := 32) dL_law_646 (by decide) ?_
  refine wp_lshl dL_law_648 ?_
  refine wp_aload_n dL_law_649 rfl ?_
  refine wp_iload_n dL_law_650 rfl ?_
  refine wp_iconst (v := 2) dL_law_651 (by decide) ?_
  refine wp_iadd dL_law_652 ?_
  refine wp_sld (i := (k + 2)) (ix_add rfl rfl) (by omega) (by omega) dL_law_653 ?_
  refine wp_i2l dL_law_654 ?_
  refine wp_ldc2 (v := 4294967295) dL_law_655 q893 ?_
  refine wp_land dL_law_658 ?_
  refine wp_lor dL_law_659 ?_
  refine wp_topl (fun v e_v => ?_)
  by_cases hh : ∃ m, PutN v m
  · obtain ⟨m, hm⟩ := hh
    have hone : ∀ m2, PutN v m2 → m2 = m := fun m2 h2 => h2.only hm.2.1 hm.2.2.1 (Or.inr (by rw [lg_0.mp hm.2.2.2.2]; decide))
    have hno2 : ∀ v2, v2 = v → ¬ ∀ n, ¬ PutN v2 n := fun v2 e hn => hn m (by rw [e]; exact hm)
    by_cases hle : pl + m ≤ 80
    · refine wp_cV1 (z := mX5_put) (n' := 243) kL_85 dL_law_660 (Nat.le_of_ble_eq_true rfl) (Nat.le_of_ble_eq_true rfl) tA_8 (Nat.le_of_ble_eq_true rfl) (Nat.le_of_ble_eq_true rfl) (Nat.le_refl _) (Nat.le_refl _) (s_X5_put hc (fun hn => absurd hm (hn m)) (fun m2 h2 hn => absurd (by rw [hone m2 h2]; exact hle) hn) (fun m2 h2 _ M1 c1 f1 => (wp_af ?_)))
      have hM1 := hM.fc f1
      have hs1 : M1 236 = M 236 := (f1 236 (by omega)).1
      have hrc1 : M1 235 3 = nI rc := by rw [(f1 235 (by omega)).1]; exact hrc
      have hpl1 : M1 235 7 = nI pl := by rw [(f1 235 (by omega)).1]; exact hpl
      have e41 : M1 241 = M 241 := (f1 241 (by omega)).1
      have e40 : M1 240 = M 240 := (f1 240 (by omega)).1
      have e39 : M1 239 = M 239 := (f1 239 (by omega)).1
      have e38 : M1 238 = M 238 := (f1 238 (by omega)).1
      refine wp_aload_n dL_law_663 rfl ?_
      refine wp_aload_n dL_law_664 rfl ?_
      refine wp_iload_n dL_law_665 rfl ?_
      refine wp_iconst (v := 1) dL_law_666 (by decide) ?_
      refine wp_iadd dL_law_667 ?_
      refine wp_sld (i := (k + 1)) (ix_add rfl rfl) (by omega) (by omega) dL_law_668 ?_
      refine wp_i2l dL_law_669 ?_
      refine wp_bipush (v := 32) dL_law_670 (by decide) ?_
      refine wp_lshl dL_law_672 ?_
      refine wp_aload_n dL_law_673 rfl ?_
      refine wp_iload_n dL_law_674 rfl ?_
      refine wp_iconst (v := 2) dL_law_675 (by decide) ?_
      refine wp_iadd dL_law_676 ?_
      refine wp_sld (i := (k + 2)) (ix_add rfl rfl) (by omega) (by omega) dL_law_677 ?_
      refine wp_i2l dL_law_678 ?_
      refine wp_ldc2 (v := 4294967295) dL_law_679 q893 ?_
      refine wp_land dL_law_682 ?_
      refine wp_lor dL_law_683 ?_
      refine wp_topl (fun v2 e_v2 => ?_)
      refine wp_cV1 (z := mX6_put) (n' := 243) kL_89 dL_law_684 (Nat.le_of_ble_eq_true rfl) (Nat.le_of_ble_eq_true rfl) tA_235 (Nat.le_of_ble_eq_true rfl) (Nat.le_of_ble_eq_true rfl) (Nat.le_refl _) (Nat.le_refl _) (s_X6_put hM1 hpl1 hp80 (fun hn => absurd hn (hno2 v2 (e_v2.trans e_v.symm))) (fun m3 h3 hn => absurd (by rw [hone m3 ((e_v2.trans e_v.symm) ▸ h3)]; exact hle) hn) (fun m3 h3 _ => (wp_af ?_)))
      obtain rfl : v2 = v := e_v2.trans e_v.symm
      obtain rfl : m3 = m2 := (hone m3 h3).trans (hone m2 h2).symm
      refine wp_icmp_eq (tgt := 790) dL_law_687 (by decide) (fun hcm => ?_) (fun hcm => absurd rfl hcm)
      refine hK _ _ (Inv.mk c1 hM1 (fun a ha => by rw [up_n _ _ (by omega), u2_n _ _ _ (by omega)]) (by rw [up_n _ _ (by decide), u2_s, up_n _ _ (by decide)]; exact hrc1) (by rw [up_n _ _ (by decide), u2_s, up_s]) (fun j _ => by rw [up_n _ _ (by decide), u2_n _ _ _ (by decide), hs1]) (fun i _ j _ => ?_) (fun t _ => by rw [up_n _ _ (by decide), u2_n _ _ _ (by decide), e40]) (fun t _ _ j _ => ?_) (fun i _ => by rw [up_s, e41]))
      · show (up (u2 M1 235 7 _) 241 _) 238 _ = M 238 _
        rw [up_n _ _ (by decide), u2_n _ _ _ (by decide), e38]
      · show (up (u2 M1 235 7 _) 241 _) 239 _ = M 239 _
        rw [up_n _ _ (by decide), u2_n _ _ _ (by decide), e39]
    · refine wp_cV1 (z := mX5_put) (n' := 243) kL_85 dL_law_660 (Nat.le_of_ble_eq_true rfl) (Nat.le_of_ble_eq_true rfl) tA_8 (Nat.le_of_ble_eq_true rfl) (Nat.le_of_ble_eq_true rfl) (Nat.le_refl _) (Nat.le_refl _) (s_X5_put hc (fun hn => absurd hm (hn m)) (fun m2 h2 hn => (wp_af ?_)) (fun m2 h2 hn => absurd (by rw [← hone m2 h2]; exact hn) hle))
      refine wp_aload_n dL_law_663 rfl ?_
      refine wp_aload_n dL_law_664 rfl ?_
      refine wp_iload_n dL_law_665 rfl ?_
      refine wp_iconst (v := 1) dL_law_666 (by decide) ?_
      refine wp_iadd dL_law_667 ?_
      refine wp_sld (i := (k + 1)) (ix_add rfl rfl) (by omega) (by omega) dL_law_668 ?_
      refine wp_i2l dL_law_669 ?_
      refine wp_bipush (v := 32) dL_law_670 (by decide) ?_
      refine wp_lshl dL_law_672 ?_
      refine wp_aload_n dL_law_673 rfl ?_
      refine wp_iload_n dL_law_674 rfl ?_
      refine wp_iconst (v := 2) dL_law_675 (by decide) ?_
      refine wp_iadd dL_law_676 ?_
      refine wp_sld (i := (k + 2)) (ix_add rfl rfl) (by omega) (by omega) dL_law_677 ?_
      refine wp_i2l dL_law_678 ?_
      refine wp_ldc2 (v := 4294967295) dL_law_679 q893 ?_
      refine wp_land dL_law_682 ?_
      refine wp_lor dL_law_683 ?_
      refine wp_topl (fun v2 e_v2 => ?_)
      refine wp_cV1 (z := mX6_put) (n' := 243) kL_89 dL_law_684 (Nat.le_of_ble_eq_true rfl) (Nat.le_of_ble_eq_true rfl) tA_235 (Nat.le_of_ble_eq_true rfl) (Nat.le_of_ble_eq_true rfl) (Nat.le_refl _) (Nat.le_refl _) (s_X6_put hM hpl hp80 (fun hn => absurd hn (hno2 v2 (e_v2.trans e_v.symm))) (fun m3 h3 hn => (wp_af ?_)) (fun m3 h3 hn => absurd (by rw [← hone m3 ((e_v2.trans e_v.symm) ▸ h3)]; exact hn) hle))
      refine wp_icmp_eq (tgt := 790) dL_law_687 (by decide) (fun hcm => ?_) (fun hcm => absurd rfl hcm)
      exact hK _ _ (Inv.kp hM hrc hpl (FC.rf M R) hc (VM.rf _))
  · have hn : ∀ m, ¬ PutN v m := fun m hm => hh ⟨m, hm⟩
    have hn2 : ∀ v2, v2 = v → ∀ n, ¬ PutN v2 n := fun v2 e n h => hn n (by rw [← e]; exact h)
    refine wp_cV1 (z := mX5_put) (n' := 243) kL_85 dL_law_660 (Nat.le_of_ble_eq_true rfl) (Nat.le_of_ble_eq_true rfl) tA_8 (Nat.le_of_ble_eq_true rfl) (Nat.le_of_ble_eq_true rfl) (Nat.le_refl _) (Nat.le_refl _) (s_X5_put hc (fun _ => (wp_af ?_)) (fun m2 h2 _ => absurd h2 (hn m2)) (fun m2 h2 _ => absurd h2 (hn m2)))
    refine wp_aload_n dL_law_663 rfl ?_
    refine wp_aload_n dL_law_664 rfl ?_
    refine wp_iload_n dL_law_665 rfl ?_
    refine wp_iconst (v := 1) dL_law_666 (by decide) ?_
    refine wp_iadd dL_law_667 ?_
    refine wp_sld (i := (k + 1)) (ix_add rfl rfl) (by omega) (by omega) dL_law_668 ?_
    refine wp_i2l dL_law_669 ?_
    refine wp_bipush (v := 32) dL_law_670 (by decide) ?_
    refine wp_lshl dL_law_672 ?_
    refine wp_aload_n dL_law_673 rfl ?_
    refine wp_iload_n dL_law_674 rfl ?_
    refine wp_iconst (v := 2) dL_law_675 (by decide) ?_
    refine wp_iadd dL_law_676 ?_
    refine wp_sld (i := (k + 2)) (ix_add rfl rfl) (by omega) (by omega) dL_law_677 ?_
    refine wp_i2l dL_law_678 ?_
    refine wp_ldc2 (v := 4294967295) dL_law_679 q893 ?_
    refine wp_land dL_law_682 ?_
    refine wp_lor dL_law_683 ?_
    refine wp_topl (fun v2 e_v2 => ?_)
    refine wp_cV1 (z := mX6_put) (n' := 243) kL_89 dL_law_684 (Nat.le_of_ble_eq_true rfl) (Nat.le_of_ble_eq_true rfl) tA_235 (Nat.le_of_ble_eq_true rfl) (Nat.le_of_ble_eq_true rfl) (Nat.le_refl _) (Nat.le_refl _) (s_X6_put hM hpl hp80 (fun _ => (wp_af ?_)) (fun m3 h3 _ => absurd h3 (hn2 v2 (e_v2.trans e_v.symm) m3)) (fun m3 h3 _ => absurd h3 (hn2 v2 (e_v2.trans e_v.symm) m3)))
    refine wp_icmp_eq (tgt := 790) dL_law_687 (by decide) (fun hcm => ?_) (fun hcm => absurd rfl hcm)
    exact hK _ _ (Inv.kp hM hrc hpl (FC.rf M R) hc (VM.rf _))

set_option maxRecDepth 100000 in
set_option maxHeartbeats 4000000 in
theorem lc_17 {γ : Gm} {l : Launch} {M : Mm} {R : Rm} {K : KT} {k : Nat} (hk : k + 6 ≤ γ.2.2.2.2.1) (hL : γ.2.2.2.2.1 ≤ 3072) (hI : Inv M R) (hK : ∀ M3 R1, Inv M3 R1 → WP γ l mL_law 8 8 243 790 [some (.ref 4), some (.ref 8), some (.ref 235), some (.int (nI k))] [] 243 M3 R1 K) : WP γ l mL_law 8 8 243 692 [some (.ref 4), some (.ref 8), some (.ref 235), some (.int (nI k))] [] 243 M R K := by
  obtain ⟨rc, pl, hrc, hpl, hM, hc⟩ := hI
  have h6 := hc.ib.h6
  have hn4 := hc.ok.n4
  have hn5 := hc.ok.n5
  have hp6 := hc.ok.p6
  have hg4 := hc.ok.g4
  refine wp_aload_n dL_law_692 rfl ?_
  refine wp_cV0 (z := mX5_wipe) (n' := 243) kL_90 dL_law_693 (Nat.le_of_ble_eq_true rfl) (Nat.le_of_ble_eq_true rfl) tA_8 (Nat.le_of_ble_eq_true rfl) (Nat.le_of_ble_eq_true rfl) (Nat.le_refl _) (Nat.le_refl _) (s_X5_wipe hc (fun M1 c1 f1 => (wp_af ?_)))
  have hM1 := hM.fc f1
  have hs1 : M1 236 = M 236 := (f1 236 (by omega)).1
  have hrc1 : M1 235 3 = nI rc := by rw [(f1 235 (by omega)).1]; exact hrc
  have hpl1 : M1 235 7 = nI pl := by rw [(f1 235 (by omega)).1]; exact hpl
  have e41 : M1 241 = M 241 := (f1 241 (by omega)).1
  have e40 : M1 240 = M 240 := (f1 240 (by omega)).1
  have e39 : M1 239 = M 239 := (f1 239 (by omega)).1
  have e38 : M1 238 = M 238 := (f1 238 (by omega)).1
  refine wp_aload_n dL_law_696 rfl ?_
  refine wp_cV0 (z := mX6_wipe) (n' := 243) kL_93 dL_law_697 (Nat.le_of_ble_eq_true rfl) (Nat.le_of_ble_eq_true rfl) tA_235 (Nat.le_of_ble_eq_true rfl) (Nat.le_of_ble_eq_true rfl) (Nat.le_refl _) (Nat.le_refl _) (s_X6_wipe hpl1 (wp_af ?_))
  refine wp_icmp_eq (tgt := 790) dL_law_700 (by decide) (fun hcm => ?_) (fun hcm => absurd rfl hcm)
  refine hK _ _ (Inv.mk c1 hM1 (fun a ha => u2_n _ _ _ (by omega)) (by rw [u2_s, up_n _ _ (by decide)]; exact hrc1) (by rw [u2_s, up_s]; rfl) (fun j _ => by rw [u2_n _ _ _ (by decide), hs1]) (fun i _ j _ => ?_) (fun t _ => by rw [u2_n _ _ _ (by decide), e40]) (fun t _ _ j _ => ?_) (fun i hi => absurd hi (by omega)))
  · show (u2 M1 235 7 _) 238 _ = M 238 _
    rw [u2_n _ _ _ (by decide), e38]
  · show (u2 M1 235 7 _) 239 _ = M 239 _
    rw [u2_n _ _ _ (by decide), e39]

set_option maxRecDepth 100000 in
set_option maxHeartbeats 4000000 in
theorem lc_18 {γ : Gm} {l : Launch} {M : Mm} {R : Rm} {K : KT} {k : Nat} (hk : k + 6 ≤ γ.2.2.2.2.1) (hL : γ.2.2.2.2.1 ≤ 3072) (hI : Inv M R) (hK : ∀ M3 R1, Inv M3 R1 → WP γ l mL_law 8 8 243 790 [some (.ref 4), some (.ref 8), some (.ref 235), some (.int (nI k))] [] 243 M3 R1 K) : WP γ l mL_law 8 8 243 705 [some (.ref 4), some (.ref 8), some (.ref 235), some (.int (nI k))] [] 243 M R K := by
  obtain ⟨rc, pl, hrc, hpl, hM, hc⟩ := hI
  have h6 := hc.ib.h6
  have hn4 := hc.ok.n4
  have hn5 := hc.ok.n5
  have hp6 := hc.ok.p6
  have hg4 := hc.ok.g4
  have hp80 := hc.ib.p80
  refine wp_aload_n dL_law_705 rfl ?_
  refine wp_cV0 (z := mX5_fault) (n' := 243) kL_94 dL_law_706 (Nat.le_of_ble_eq_true rfl) (Nat.le_of_ble_eq_true rfl) tA_8 (Nat.le_of_ble_eq_true rfl) (Nat.le_of_ble_eq_true rfl) (Nat.le_refl _) (Nat.le_refl _) (s_X5_fault hc (fun M1 c1 f1 => (wp_af ?_)))
  have hM1 := hM.fc f1
  have hs1 : M1 236 = M 236 := (f1 236 (by omega)).1
  have hrc1 : M1 235 3 = nI rc := by rw [(f1 235 (by omega)).1]; exact hrc
  have hpl1 : M1 235 7 = nI pl := by rw [(f1 235 (by omega)).1]; exact hpl
  have e41 : M1 241 = M 241 := (f1 241 (by omega)).1
  have e40 : M1 240 = M 240 := (f1 240 (by omega)).1
  have e39 : M1 239 = M 239 := (f1 239 (by omega)).1
  have e38 : M1 238 = M 238 := (f1 238 (by omega)).1
  obtain ⟨a, m, nb, lt, sx, hX⟩ := PS.ex e41 hpl1
  refine wp_aload_n dL_law_709 rfl ?_
  refine wp_cV0 (z := mX6_fault) (n' := 243) kL_97 dL_law_710 (Nat.le_of_ble_eq_true rfl) (Nat.le_of_ble_eq_true rfl) tA_235 (Nat.le_of_ble_eq_true rfl) (Nat.le_of_ble_eq_true rfl) (Nat.le_refl _) (Nat.le_refl _) (s_X6_fault hM1 hX hp80 (fun M2 _ _ _ _ _ g => (wp_af ?_)))
  refine wp_icmp_eq (tgt := 790) dL_law_713 (by decide) (fun hcm => ?_) (fun hcm => absurd rfl hcm)
  exact hK _ _ (Inv.kp hM hrc hpl f1 c1 g.vm)

set_option maxRecDepth 100000 in
set_option maxHeartbeats 4000000 in
theorem lc_19 {γ : Gm} {l : Launch} {M : Mm} {R : Rm} {K : KT} {k : Nat} (hk : k + 6 ≤ γ.2.2.2.2.1) (hL : γ.2.2.2.2.1 ≤ 3072) (hI : Inv M R) (hK : ∀ M3 R1, Inv M3 R1 → WP γ l mL_law 8 8 243 790 [some (.ref 4), some (.ref 8), some (.ref 235), some (.int (nI k))] [] 243 M3 R1 K) : WP γ l mL_law 8 8 243 718 [some (.ref 4), some (.ref 8), some (.ref 235), some (.int (nI k))] [] 243 M R K := by
  obtain ⟨rc, pl, hrc, hpl, hM, hc⟩ := hI
  have h6 := hc.ib.h6
  have hn4 := hc.ok.n4
  have hn5 := hc.ok.n5
  have hp6 := hc.ok.p6
  have hg4 := hc.ok.g4
  have hp80 := hc.ib.p80
  by_cases hff : ffF (M 241) pl 82 0 = -6
  · refine wp_aload_n dL_law_718 rfl ?_
    refine wp_cV0 (z := mX5_carryOut) (n' := 243) kL_98 dL_law_719 (Nat.le_of_ble_eq_true rfl) (Nat.le_of_ble_eq_true rfl) tA_8 (Nat.le_of_ble_eq_true rfl) (Nat.le_of_ble_eq_true rfl) (Nat.le_refl _) (Nat.le_refl _) (s_X5_carryOut hc (fun hn => absurd hff hn) (fun _ M1 R1 c1 f1 => (wp_af ?_)))
    have hM1 := hM.fc f1
    have hs1 : M1 236 = M 236 := (f1 236 (by omega)).1
    have hrc1 : M1 235 3 = nI rc := by rw [(f1 235 (by omega)).1]; exact hrc
    have hpl1 : M1 235 7 = nI pl := by rw [(f1 235 (by omega)).1]; exact hpl
    have e41 : M1 241 = M 241 := (f1 241 (by omega)).1
    have e40 : M1 240 = M 240 := (f1 240 (by omega)).1
    have e39 : M1 239 = M 239 := (f1 239 (by omega)).1
    have e38 : M1 238 = M 238 := (f1 238 (by omega)).1
    obtain ⟨a, m, nb, lt, sx, hX⟩ := PS.ex e41 hpl1
    refine wp_aload_n dL_law_722 rfl ?_
    refine wp_cV0 (z := mX6_carryOut) (n' := 243) kL_101 dL_law_723 (Nat.le_of_ble_eq_true rfl) (Nat.le_of_ble_eq_true rfl) tA_235 (Nat.le_of_ble_eq_true rfl) (Nat.le_of_ble_eq_true rfl) (Nat.le_refl _) (Nat.le_refl _) (s_X6_carryOut hs1 hM1 hc.ok hrc1 h6 hX hp80 (fun hn => absurd hff hn) (fun _ Ma _ _ _ _ _ Mb Mc _ _ _ _ _ g1 hp g2 => (wp_af ?_)))
    refine wp_icmp_eq (tgt := 790) dL_law_726 (by decide) (fun hcm => ?_) (fun hcm => absurd rfl hcm)
    have b1 : ∀ a, a ≠ 235 → a ≠ 236 → a ≠ 238 → a ≠ 242 → Mc a = M1 a := fun a k1 k2 k3 k4 => by rw [g2.1 a k1 k4, up_n _ _ k2, hp.1 a k1 k3, g1.1 a k1 k4]
    have b8 : Mc 238 = Mb 238 := by rw [g2.1 238 (by decide) (by decide), up_n _ _ (by decide)]
    have b3 : Mc 235 3 = nI (rcN rc) := by rw [g2.2.1 3 (by decide) (by decide) (by decide) (by decide), up_n _ _ (by decide), hp.2.2.1]; rfl
    have bh := hp.hs (M := M) (by rw [g1.1 236 (by decide) (by decide)]; exact hs1) (by rw [g1.1 238 (by decide) (by decide)]; exact e38)
    refine hK _ _ (Inv.mk c1 hM1 (fun a ha => by rw [u2_n _ _ _ (by omega), b1 a (by omega) (by omega) (by omega) (by omega)]) (by rw [u2_s, up_n _ _ (by decide)]; exact b3) (by rw [u2_s, up_s]; rfl) (fun j _ => by rw [u2_n _ _ _ (by decide), g2.1 236 (by decide) (by decide), up_s]) (fun i hi j hj => ?_) (fun t _ => by rw [u2_n _ _ _ (by decide), b1 240 (by decide) (by decide) (by decide) (by decide), e40]) (fun t _ _ j _ => ?_) (fun i hi => absurd hi (by omega)))
    · show (u2 Mc 235 7 _) 238 _ = _
      rw [u2_n _ _ _ (by decide), b8]
      exact bh i hi j hj
    · show (u2 Mc 235 7 _) 239 _ = M 239 _
      rw [u2_n _ _ _ (by decide), b1 239 (by decide) (by decide) (by decide) (by decide), e39]
  · refine wp_aload_n dL_law_718 rfl ?_
    refine wp_cV0 (z := mX5_carryOut) (n' := 243) kL_98 dL_law_719 (Nat.le_of_ble_eq_true rfl) (Nat.le_of_ble_eq_true rfl) tA_8 (Nat.le_of_ble_eq_true rfl) (Nat.le_of_ble_eq_true rfl) (Nat.le_refl _) (Nat.le_refl _) (s_X5_carryOut hc (fun _ M1 c1 f1 => (wp_af ?_)) (fun hn => absurd hn hff))
    have hM1 := hM.fc f1
    have hs1 : M1 236 = M 236 := (f1 236 (by omega)).1
    have hrc1 : M1 235 3 = nI rc := by rw [(f1 235 (by omega)).1]; exact hrc
    have hpl1 : M1 235 7 = nI pl := by rw [(f1 235 (by omega)).1]; exact hpl
    have e41 : M1 241 = M 241 := (f1 241 (by omega)).1
    have e40 : M1 240 = M 240 := (f1 240 (by omega)).1
    have e39 : M1 239 = M 239 := (f1 239 (by omega)).1
    have e38 : M1 238 = M 238 := (f1 238 (by omega)).1
    obtain ⟨a, m, nb, lt, sx, hX⟩ := PS.ex e41 hpl1
    refine wp_aload_n dL_law_722 rfl ?_
    refine wp_cV0 (z := mX6_carryOut) (n' := 243) kL_101 dL_law_723 (Nat.le_of_ble_eq_true rfl) (Nat.le_of_ble_eq_true rfl) tA_235 (Nat.le_of_ble_eq_true rfl) (Nat.le_of_ble_eq_true rfl) (Nat.le_refl _) (Nat.le_refl _) (s_X6_carryOut hs1 hM1 hc.ok hrc1 h6 hX hp80 (fun _ M2 _ _ _ _ _ g => (wp_af ?_)) (fun hn => absurd hn hff))
    refine wp_icmp_eq (tgt := 790) dL_law_726 (by decide) (fun hcm => ?_) (fun hcm => absurd rfl hcm)
    exact hK _ _ (Inv.kp hM hrc hpl f1 c1 g.vm)

set_option maxRecDepth 100000 in
set_option maxHeartbeats 4000000 in
theorem lc_20 {γ : Gm} {l : Launch} {M : Mm} {R : Rm} {K : KT} {k : Nat} (hk : k + 6 ≤ γ.2.2.2.2.1) (hL : γ.2.2.2.2.1 ≤ 3072) (hI : Inv M R) (hK : ∀ M3 R1, Inv M3 R1 → WP γ l mL_law 8 8 243 790 [some (.ref 4), some (.ref 8), some (.ref 235), some (.int (nI k))] [] 243 M3 R1 K) : WP γ l mL_law 8 8 243 731 [some (.ref 4), some (.ref 8), some (.ref 235), some (.int (nI k))] [] 243 M R K := by
  obtain ⟨rc, pl, hrc, hpl, hM, hc⟩ := hI
  have h6 := hc.ib.h6
  have hn4 := hc.ok.n4
  have hn5 := hc.ok.n5
  have hp6 := hc.ok.p6
  have hg4 := hc.ok.g4
  by_cases hz : rc = 0
  · refine wp_aload_n dL_law_731 rfl ?_
    refine wp_cV0 (z := mX5_undo) (n' := 243) kL_102 dL_law_732 (Nat.le_of_ble_eq_true rfl) (Nat.le_of_ble_eq_true rfl) tA_8 (Nat.le_of_ble_eq_true rfl) (Nat.le_of_ble_eq_true rfl) (Nat.le_refl _) (Nat.le_refl _) (s_X5_undo hc (fun _ => (wp_af ?_)) (fun q e => absurd e (by omega)))
    refine wp_aload_n dL_law_735 rfl ?_
    refine wp_cV0 (z := mX6_undo) (n' := 243) kL_105 dL_law_736 (Nat.le_of_ble_eq_true rfl) (Nat.le_of_ble_eq_true rfl) tA_235 (Nat.le_of_ble_eq_true rfl) (Nat.le_of_ble_eq_true rfl) (Nat.le_refl _) (Nat.le_refl _) (s_X6_undo rfl hM hrc h6 (fun _ => (wp_af ?_)) (fun q e => absurd e (by omega)))
    refine wp_icmp_eq (tgt := 790) dL_law_739 (by decide) (fun hcm => ?_) (fun hcm => absurd rfl hcm)
    exact hK _ _ (Inv.kp hM hrc hpl (FC.rf M R) hc (VM.rf _))
  · refine wp_aload_n dL_law_731 rfl ?_
    refine wp_cV0 (z := mX5_undo) (n' := 243) kL_102 dL_law_732 (Nat.le_of_ble_eq_true rfl) (Nat.le_of_ble_eq_true rfl) tA_8 (Nat.le_of_ble_eq_true rfl) (Nat.le_of_ble_eq_true rfl) (Nat.le_refl _) (Nat.le_refl _) (s_X5_undo hc (fun e => absurd e hz) (fun q eq M1 c1 f1 => (wp_af ?_)))
    have hM1 := hM.fc f1
    have hs1 : M1 236 = M 236 := (f1 236 (by omega)).1
    have hrc1 : M1 235 3 = nI rc := by rw [(f1 235 (by omega)).1]; exact hrc
    have hpl1 : M1 235 7 = nI pl := by rw [(f1 235 (by omega)).1]; exact hpl
    have e41 : M1 241 = M 241 := (f1 241 (by omega)).1
    have e40 : M1 240 = M 240 := (f1 240 (by omega)).1
    have e39 : M1 239 = M 239 := (f1 239 (by omega)).1
    have e38 : M1 238 = M 238 := (f1 238 (by omega)).1
    refine wp_aload_n dL_law_735 rfl ?_
    refine wp_cV0 (z := mX6_undo) (n' := 243) kL_105 dL_law_736 (Nat.le_of_ble_eq_true rfl) (Nat.le_of_ble_eq_true rfl) tA_235 (Nat.le_of_ble_eq_true rfl) (Nat.le_of_ble_eq_true rfl) (Nat.le_refl _) (Nat.le_refl _) (s_X6_undo hs1 hM1 hrc1 h6 (fun e => absurd e hz) (fun q2 eq2 => (wp_af ?_)))
    obtain rfl : q2 = q := by omega
    refine wp_icmp_eq (tgt := 790) dL_law_739 (by decide) (fun hcm => ?_) (fun hcm => absurd rfl hcm)
    refine hK _ _ (Inv.mk c1 hM1 (fun a ha => by rw [up_n _ _ (by omega), u2_n _ _ _ (by omega)]) (by rw [up_n _ _ (by decide), u2_s, up_s]) (by rw [up_n _ _ (by decide), u2_s, up_n _ _ (by decide)]; exact hpl1) (fun j hj => by rw [up_s, cpy_at _ _ _ hj, e38]; rfl) (fun i _ j _ => ?_) (fun t _ => by rw [up_n _ _ (by decide), u2_n _ _ _ (by decide), e40]) (fun t _ _ j _ => ?_) (fun i _ => by rw [up_n _ _ (by decide), u2_n _ _ _ (by decide), e41]))
    · show (up (u2 M1 235 3 _) 236 _) 238 _ = M 238 _
      rw [up_n _ _ (by decide), u2_n _ _ _ (by decide), e38]
    · show (up (u2 M1 235 3 _) 236 _) 239 _ = M 239 _
      rw [up_n _ _ (by decide), u2_n _ _ _ (by decide), e39]

set_option maxRecDepth 100000 in
set_option maxHeartbeats 4000000 in
theorem lc_21 {γ : Gm} {l : Launch} {M : Mm} {R : Rm} {K : KT} {k : Nat} (hk : k + 6 ≤ γ.2.2.2.2.1) (hL : γ.2.2.2.2.1 ≤ 3072) (hI : Inv M R) (hK : ∀ M3 R1, Inv M3 R1 → WP γ l mL_law 8 8 243 790 [some (.ref 4), some (.ref 8), some (.ref 235), some (.int (nI k))] [] 243 M3 R1 K) : WP γ l mL_law 8 8 243 744 [some (.ref 4), some (.ref 8), some (.ref 235), some (.int (nI k))] [] 243 M R K := by
  obtain ⟨rc, pl, hrc, hpl, hM, hc⟩ := hI
  have h6 := hc.ib.h6
  have hn4 := hc.ok.n4
  have hn5 := hc.ok.n5
  have hp6 := hc.ok.p6
  have hg4 := hc.ok.g4
  by_cases hw : 0 ≤ (γ.2.2.2.2.2 (k + 1)) ∧ (γ.2.2.2.2.2 (k + 1)) ≤ 1
  · refine wp_aload_n dL_law_744 rfl ?_
    refine wp_aload_n dL_law_745 rfl ?_
    refine wp_iload_n dL_law_746 rfl ?_
    refine wp_iconst (v := 1) dL_law_747 (by decide) ?_
    refine wp_iadd dL_law_748 ?_
    refine wp_sld (i := (k + 1)) (ix_add rfl rfl) (by omega) (by omega) dL_law_749 ?_
    refine wp_cV1 (z := mX5_save) (n' := 243) kL_106 dL_law_750 (Nat.le_of_ble_eq_true rfl) (Nat.le_of_ble_eq_true rfl) tA_8 (Nat.le_of_ble_eq_true rfl) (Nat.le_of_ble_eq_true rfl) (Nat.le_refl _) (Nat.le_refl _) (s_X5_save hc (fun hn => absurd hw hn) (fun t ht et M1 c1 f1 => (wp_af ?_)))
    have hM1 := hM.fc f1
    have hs1 : M1 236 = M 236 := (f1 236 (by omega)).1
    have hrc1 : M1 235 3 = nI rc := by rw [(f1 235 (by omega)).1]; exact hrc
    have hpl1 : M1 235 7 = nI pl := by rw [(f1 235 (by omega)).1]; exact hpl
    have e41 : M1 241 = M 241 := (f1 241 (by omega)).1
    have e40 : M1 240 = M 240 := (f1 240 (by omega)).1
    have e39 : M1 239 = M 239 := (f1 239 (by omega)).1
    have e38 : M1 238 = M 238 := (f1 238 (by omega)).1
    refine wp_aload_n dL_law_753 rfl ?_
    refine wp_aload_n dL_law_754 rfl ?_
    refine wp_iload_n dL_law_755 rfl ?_
    refine wp_iconst (v := 1) dL_law_756 (by decide) ?_
    refine wp_iadd dL_law_757 ?_
    refine wp_sld (i := (k + 1)) (ix_add rfl rfl) (by omega) (by omega) dL_law_758 ?_
    refine wp_cV1 (z := mX6_save) (n' := 243) kL_109 dL_law_759 (Nat.le_of_ble_eq_true rfl) (Nat.le_of_ble_eq_true rfl) tA_235 (Nat.le_of_ble_eq_true rfl) (Nat.le_of_ble_eq_true rfl) (Nat.le_refl _) (Nat.le_refl _) (s_X6_save (np := 0) hs1 hM1 (fun hn => absurd hw hn) (fun t2 ht2 et2 => (wp_af ?_)))
    obtain rfl := (nI_eq (by omega) (by omega)).mp (et.symm.trans et2)
    refine wp_icmp_eq (tgt := 790) dL_law_762 (by decide) (fun hcm => ?_) (fun hcm => absurd rfl hcm)
    refine hK _ _ (Inv.mk c1 hM1 (fun a ha => by rw [u2_n _ _ _ (by omega), up_n _ _ (by omega)]) (by rw [u2_n _ _ _ (by decide), up_n _ _ (by decide)]; exact hrc1) (by rw [u2_n _ _ _ (by decide), up_n _ _ (by decide)]; exact hpl1) (fun j _ => by rw [u2_n _ _ _ (by decide), up_n _ _ (by decide), hs1]) (fun i _ j _ => ?_) (fun q _ => by rw [u2_s, up_n M1 _ (show (240 : Nat) ≠ 239 by decide), e40]) (fun q hq _ j hj => ?_) (fun i _ => by rw [u2_n _ _ _ (by decide), up_n _ _ (by decide), e41]))
    · show (u2 (up M1 239 _) 240 _ _) 238 _ = M 238 _
      rw [u2_n _ _ _ (by decide), up_n _ _ (by decide), e38]
    · show (u2 (up M1 239 _) 240 _ _) 239 _ = _
      rw [u2_n _ _ _ (by decide), up_s]
      by_cases e : q = t
      · subst e
        rw [up_s, cpy_to _ _ _ hj]
      · rw [up_n _ _ e, cpy_out _ _ _ (by omega), e39]
        rfl
  · have hno : ∀ i, i < 2 → (γ.2.2.2.2.2 (k + 1)) = nI i → False := fun i hi ei => hw (by rw [ei]; exact ⟨nI_pos' (by omega), (nI_leI (by omega) (by decide)).mpr (show i ≤ 1 by omega)⟩)
    refine wp_aload_n dL_law_744 rfl ?_
    refine wp_aload_n dL_law_745 rfl ?_
    refine wp_iload_n dL_law_746 rfl ?_
    refine wp_iconst (v := 1) dL_law_747 (by decide) ?_
    refine wp_iadd dL_law_748 ?_
    refine wp_sld (i := (k + 1)) (ix_add rfl rfl) (by omega) (by omega) dL_law_749 ?_
    refine wp_cV1 (z := mX5_save) (n' := 243) kL_106 dL_law_750 (Nat.le_of_ble_eq_true rfl) (Nat.le_of_ble_eq_true rfl) tA_8 (Nat.le_of_ble_eq_true rfl) (Nat.le_of_ble_eq_true rfl) (Nat.le_refl _) (Nat.le_refl _) (s_X5_save hc (fun _ => (wp_af ?_)) (fun i hi ei => (hno i hi ei).elim))
    refine wp_aload_n dL_law_753 rfl ?_
    refine wp_aload_n dL_law_754 rfl ?_
    refine wp_iload_n dL_law_755 rfl ?_
    refine wp_iconst (v := 1) dL_law_756 (by decide) ?_
    refine wp_iadd dL_law_757 ?_
    refine wp_sld (i := (k + 1)) (ix_add rfl rfl) (by omega) (by omega) dL_law_758 ?_
    refine wp_cV1 (z := mX6_save) (n' := 243) kL_109 dL_law_759 (Nat.le_of_ble_eq_true rfl) (Nat.le_of_ble_eq_true rfl) tA_235 (Nat.le_of_ble_eq_true rfl) (Nat.le_of_ble_eq_true rfl) (Nat.le_refl _) (Nat.le_refl _) (s_X6_save (np := 0) rfl hM (fun _ => (wp_af ?_)) (fun i hi ei => (hno i hi ei).elim))
    refine wp_icmp_eq (tgt := 790) dL_law_762 (by decide) (fun hcm => ?_) (fun hcm => absurd rfl hcm)
    exact hK _ _ (Inv.kp hM hrc hpl (FC.rf M R) hc (VM.rf _))

set_option maxRecDepth 100000 in
set_option maxHeartbeats 4000000 in
theorem lc_22 {γ : Gm} {l : Launch} {M : Mm} {R : Rm} {K : KT} {k : Nat} (hk : k + 6 ≤ γ.2.2.2.2.1) (hL : γ.2.2.2.2.1 ≤ 3072) (hI : Inv M R) (hK : ∀ M3 R1, Inv M3 R1 → WP γ l mL_law 8 8 243 790 [some (.ref 4), some (.ref 8), some (.ref 235), some (.int (nI k))] [] 243 M3 R1 K) : WP γ l mL_law 8 8 243 767 [some (.ref 4), some (.ref 8), some (.ref 235), some (.int (nI k))] [] 243 M R K := by
  obtain ⟨rc, pl, hrc, hpl, hM, hc⟩ := hI
  have h6 := hc.ib.h6
  have hn4 := hc.ok.n4
  have hn5 := hc.ok.n5
  have hp6 := hc.ok.p6
  have hg4 := hc.ok.g4
  by_cases hw : 0 ≤ (γ.2.2.2.2.2 (k + 1)) ∧ (γ.2.2.2.2.2 (k + 1)) ≤ 1
  · obtain ⟨t, ht, et⟩ := slot_in hw
    have hone : ∀ t2, t2 < 2 → (γ.2.2.2.2.2 (k + 1)) = nI t2 → t2 = t := fun t2 h2 e2 => (nI_eq (by omega) (by omega)).mp (e2.symm.trans et)
    by_cases hz : M 240 t = 0
    · refine wp_aload_n dL_law_767 rfl ?_
      refine wp_aload_n dL_law_768 rfl ?_
      refine wp_iload_n dL_law_769 rfl ?_
      refine wp_iconst (v := 1) dL_law_770 (by decide) ?_
      refine wp_iadd dL_law_771 ?_
      refine wp_sld (i := (k + 1)) (ix_add rfl rfl) (by omega) (by omega) dL_law_772 ?_
      refine wp_cV1 (z := mX5_restore) (n' := 243) kL_110 dL_law_773 (Nat.le_of_ble_eq_true rfl) (Nat.le_of_ble_eq_true rfl) tA_8 (Nat.le_of_ble_eq_true rfl) (Nat.le_of_ble_eq_true rfl) (Nat.le_refl _) (Nat.le_refl _) (s_X5_restore hc (fun hn => absurd hw hn) (fun t2 ht2 et2 _ => (wp_af ?_)) (fun t2 ht2 et2 e => absurd (by rw [hone t2 ht2 et2]; exact hz) e))
      refine wp_aload_n dL_law_776 rfl ?_
      refine wp_aload_n dL_law_777 rfl ?_
      refine wp_iload_n dL_law_778 rfl ?_
      refine wp_iconst (v := 1) dL_law_779 (by decide) ?_
      refine wp_iadd dL_law_780 ?_
      refine wp_sld (i := (k + 1)) (ix_add rfl rfl) (by omega) (by omega) dL_law_781 ?_
      refine wp_cV1 (z := mX6_restore) (n' := 243) kL_113 dL_law_782 (Nat.le_of_ble_eq_true rfl) (Nat.le_of_ble_eq_true rfl) tA_235 (Nat.le_of_ble_eq_true rfl) (Nat.le_of_ble_eq_true rfl) (Nat.le_refl _) (Nat.le_refl _) (s_X6_restore rfl hM hrc h6 (fun hn => absurd hw hn) (fun t2 ht2 et2 _ => (wp_af ?_)) (fun t2 ht2 et2 e => absurd (by rw [hone t2 ht2 et2]; exact hz) e))
      refine wp_icmp_eq (tgt := 790) dL_law_785 (by decide) (fun hcm => ?_) (fun hcm => absurd rfl hcm)
      exact hK _ _ (Inv.kp hM hrc hpl (FC.rf M R) hc (VM.rf _))
    · refine wp_aload_n dL_law_767 rfl ?_
      refine wp_aload_n dL_law_768 rfl ?_
      refine wp_iload_n dL_law_769 rfl ?_
      refine wp_iconst (v := 1) dL_law_770 (by decide) ?_
      refine wp_iadd dL_law_771 ?_
      refine wp_sld (i := (k + 1)) (ix_add rfl rfl) (by omega) (by omega) dL_law_772 ?_
      refine wp_cV1 (z := mX5_restore) (n' := 243) kL_110 dL_law_773 (Nat.le_of_ble_eq_true rfl) (Nat.le_of_ble_eq_true rfl) tA_8 (Nat.le_of_ble_eq_true rfl) (Nat.le_of_ble_eq_true rfl) (Nat.le_refl _) (Nat.le_refl _) (s_X5_restore hc (fun hn => absurd hw hn) (fun t2 ht2 et2 e => absurd (by rw [← hone t2 ht2 et2]; exact e) hz) (fun t2 ht2 et2 _ M1 R1 c1 f1 => (wp_af ?_)))
      have hM1 := hM.fc f1
      have hs1 : M1 236 = M 236 := (f1 236 (by omega)).1
      have hrc1 : M1 235 3 = nI rc := by rw [(f1 235 (by omega)).1]; exact hrc
      have hpl1 : M1 235 7 = nI pl := by rw [(f1 235 (by omega)).1]; exact hpl
      have e41 : M1 241 = M 241 := (f1 241 (by omega)).1
      have e40 : M1 240 = M 240 := (f1 240 (by omega)).1
      have e39 : M1 239 = M 239 := (f1 239 (by omega)).1
      have e38 : M1 238 = M 238 := (f1 238 (by omega)).1
      refine wp_aload_n dL_law_776 rfl ?_
      refine wp_aload_n dL_law_777 rfl ?_
      refine wp_iload_n dL_law_778 rfl ?_
      refine wp_iconst (v := 1) dL_law_779 (by decide) ?_
      refine wp_iadd dL_law_780 ?_
      refine wp_sld (i := (k + 1)) (ix_add rfl rfl) (by omega) (by omega) dL_law_781 ?_
      refine wp_cV1 (z := mX6_restore) (n' := 243) kL_113 dL_law_782 (Nat.le_of_ble_eq_true rfl) (Nat.le_of_ble_eq_true rfl) tA_235 (Nat.le_of_ble_eq_true rfl) (Nat.le_of_ble_eq_true rfl) (Nat.le_refl _) (Nat.le_refl _) (s_X6_restore hs1 hM1 hrc1 h6 (fun hn => absurd hw hn) (fun t3 ht3 et3 e => absurd (by rw [← hone t3 ht3 et3, ← e40]; exact e) hz) (fun t3 ht3 et3 _ M2 hp => (wp_af ?_)))
      obtain rfl : t3 = t2 := (hone t3 ht3 et3).trans (hone t2 ht2 et2).symm
      refine wp_top (z := slR M t3 4) (by rw [cpy_at _ _ _ (by omega), e39]; rfl) ?_
      refine wp_icmp_eq (tgt := 790) dL_law_785 (by decide) (fun hcm => ?_) (fun hcm => absurd rfl hcm)
      exact hK _ _ (Inv.rec hM h6 hpl f1 c1 hp _ (fun j hj => by rw [cpy_at _ _ _ hj, e39]; rfl))
  · have hno : ∀ i, i < 2 → (γ.2.2.2.2.2 (k + 1)) = nI i → False := fun i hi ei => hw (by rw [ei]; exact ⟨nI_pos' (by omega), (nI_leI (by omega) (by decide)).mpr (show i ≤ 1 by omega)⟩)
    refine wp_aload_n dL_law_767 rfl ?_
    refine wp_aload_n dL_law_768 rfl ?_
    refine wp_iload_n dL_law_769 rfl ?_
    refine wp_iconst (v := 1) dL_law_770 (by decide) ?_
    refine wp_iadd dL_law_771 ?_
    refine wp_sld (i := (k + 1)) (ix_add rfl rfl) (by omega) (by omega) dL_law_772 ?_
    refine wp_cV1 (z := mX5_restore) (n' := 243) kL_110 dL_law_773 (Nat.le_of_ble_eq_true rfl) (Nat.le_of_ble_eq_true rfl) tA_8 (Nat.le_of_ble_eq_true rfl) (Nat.le_of_ble_eq_true rfl) (Nat.le_refl _) (Nat.le_refl _) (s_X5_restore hc (fun _ => (wp_af ?_)) (fun i hi ei => (hno i hi ei).elim) (fun i hi ei => (hno i hi ei).elim))
    refine wp_aload_n dL_law_776 rfl ?_
    refine wp_aload_n dL_law_777 rfl ?_
    refine wp_iload_n dL_law_778 rfl ?_
    refine wp_iconst (v := 1) dL_law_779 (by decide) ?_
    refine wp_iadd dL_law_780 ?_
    refine wp_sld (i := (k + 1)) (ix_add rfl rfl) (by omega) (by omega) dL_law_781 ?_
    refine wp_cV1 (z := mX6_restore) (n' := 243) kL_113 dL_law_782 (Nat.le_of_ble_eq_true rfl) (Nat.le_of_ble_eq_true rfl) tA_235 (Nat.le_of_ble_eq_true rfl) (Nat.le_of_ble_eq_true rfl) (Nat.le_refl _) (Nat.le_refl _) (s_X6_restore rfl hM hrc h6 (fun _ => (wp_af ?_)) (fun i hi ei => (hno i hi ei).elim) (fun i hi ei => (hno i hi ei).elim))
    refine wp_icmp_eq (tgt := 790) dL_law_785 (by decide) (fun hcm => ?_) (fun hcm => absurd rfl hcm)
    exact hK _ _ (Inv.kp hM hrc hpl (FC.rf M R) hc (VM.rf _))

