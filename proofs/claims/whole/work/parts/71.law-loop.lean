/-! THE LAW: its loop, and its start -/
theorem lw_in {L k : Nat} (hL : L ≤ 3072) (hk : k ≤ 4000) (h : ¬ nI L - 6 < nI k) : k + 6 ≤ L := by
  have e1 : (nI L).toInt = L := nI_toInt (by omega)
  have e2 : (nI k).toInt = k := nI_toInt (by omega)
  rw [Int32.lt_iff_toInt_lt, sub_int (by rw [e1, show (6 : Int32).toInt = 6 by decide]; omega) (by rw [e1, show (6 : Int32).toInt = 6 by decide]; omega), e1, e2, show (6 : Int32).toInt = 6 by decide] at h
  omega
theorem NC.mv {M0 M M2 : Mm} {R0 R R2 : Rm} (h : NC M0 R0 M R 2) (e : ∀ a, a < 235 → M2 a = M a ∧ R2 a = R a) : NC M2 R2 M2 R2 2 := by
  obtain ⟨h1, ⟨a0, a1, a2, a3, a4, a5, a6, a7, a8⟩, ⟨b1, b2, b3⟩, ⟨c1, c2⟩, ⟨d1, d2, d3, d4⟩, e1⟩ := h
  refine ⟨fun _ _ => ⟨rfl, rfl⟩, ?_, ⟨b1.frame fun a _ _ => (e a (by omega)).2, b2.frame fun a _ _ => (e a (by omega)).2, b3.frame fun a _ _ => (e a (by omega)).2⟩, ⟨fun i hi => by rw [(e 32 (by omega)).2]; exact c1 i hi, fun k hk => (c2 k hk).frame fun a _ _ => (e a (by omega)).2⟩, ⟨d1.frame b1 (by omega) (by omega) fun a _ _ => e a (by omega), by rw [(e 29 (by omega)).1]; exact d2, by rw [(e 31 (by omega)).1]; exact d3, fun j => by rw [(e 154 (by omega)).1]; exact d4 j⟩, fun i hi => ⟨by rw [(e 153 (by omega)).2]; exact (e1 i hi).1, (e1 i hi).2.frame fun a _ _ => (e a (by omega)).2⟩⟩
  rw [(e 8 (by omega)).2, (e 29 (by omega)).2, (e 31 (by omega)).2]
  exact ⟨a0, a1, a2, a3, a4, a5, a6, a7, a8⟩
set_option maxRecDepth 100000 in
set_option maxHeartbeats 4000000 in
theorem lw_loop {γ : Gm} {l : Launch} {K : KT} (hL : γ.2.2.2.2.1 ≤ 3072) (hK : ∀ M1 R1, K (some (.int 1)) 243 M1 R1) : ∀ (q k : Nat) (M : Mm) (R : Rm), 4000 - k < q → k ≤ 3078 → Inv M R → WP γ l mL_law 8 8 243 18 [some (.ref 4), some (.ref 8), some (.ref 235), some (.int (nI k))] [] 243 M R K := by
  intro q
  induction q with
  | zero => intro k M R h; omega
  | succ q ih =>
    intro k M R hq hk hI
    have tail : k + 6 ≤ γ.2.2.2.2.1 → ∀ M3 R1, Inv M3 R1 → WP γ l mL_law 8 8 243 790 [some (.ref 4), some (.ref 8), some (.ref 235), some (.int (nI k))] [] 243 M3 R1 K := by
      intro hk6 M3 R1 hI3
      refine wp_iinc (v := nI (k + 6)) (L' := [some (.ref 4), some (.ref 8), some (.ref 235), some (.int (nI (k + 6)))]) dL_law_790 (by decide) rfl (nI_add k 6) rfl ?_
      refine wp_goto (tgt := 18) dL_law_793 (by decide) ?_
      exact ih (k + 6) M3 R1 (by omega) (by omega) hI3
    refine wp_iload_n dL_law_18 rfl ?_
    refine wp_aload_n dL_law_19 rfl ?_
    refine wp_slen dL_law_20 ?_
    refine wp_bipush (v := 6) dL_law_21 (by decide) ?_
    refine wp_isub dL_law_23 ?_
    refine wp_icmp_gt (tgt := 796) dL_law_24 (by decide) (fun h24 => ?_) (fun h24 => ?_)
    · refine wp_iconst (v := 1) dL_law_796 (by decide) ?_
      exact wp_iret dL_law_797 rfl rfl rfl (hK M R)
    · have hk6 := lw_in hL (by omega) h24
      have tail := tail hk6
      refine wp_aload_n dL_law_27 rfl ?_
      refine wp_iload_n dL_law_28 rfl ?_
      refine wp_sld (i := k) rfl (by omega) (by omega) dL_law_29 ?_
      refine wp_bipush (v := 31) dL_law_30 (by decide) ?_
      refine wp_iand dL_law_32 ?_
      refine wp_tswitch [(0, 140), (1, 173), (2, 236), (3, 259), (4, 282), (5, 305), (6, 338), (7, 361), (8, 394), (9, 427), (10, 460), (11, 493), (12, 517), (13, 540), (14, 573), (15, 626), (16, 639), (17, 692), (18, 705), (19, 718), (20, 731), (21, 744), (22, 767)] 790 dL_law_33 (by decide) (by decide) (by decide +kernel) ?_
      refine wp_sw (fun h33_0 => ?_) (fun h33_0 => ?_)
      · exact lc_0 hk6 hL hI tail
      refine wp_sw (fun h33_1 => ?_) (fun h33_1 => ?_)
      · exact lc_1 hk6 hL hI tail
      refine wp_sw (fun h33_2 => ?_) (fun h33_2 => ?_)
      · exact lc_2 hk6 hL hI tail
      refine wp_sw (fun h33_3 => ?_) (fun h33_3 => ?_)
      · exact lc_3 hk6 hL hI tail
      refine wp_sw (fun h33_4 => ?_) (fun h33_4 => ?_)
      · exact lc_4 hk6 hL hI tail
      refine wp_sw (fun h33_5 => ?_) (fun h33_5 => ?_)
      · exact lc_5 hk6 hL hI tail
      refine wp_sw (fun h33_6 => ?_) (fun h33_6 => ?_)
      · exact lc_6 hk6 hL hI tail
      refine wp_sw (fun h33_7 => ?_) (fun h33_7 => ?_)
      · exact lc_7 hk6 hL hI tail
      refine wp_sw (fun h33_8 => ?_) (fun h33_8 => ?_)
      · exact lc_8 hk6 hL hI tail
      refine wp_sw (fun h33_9 => ?_) (fun h33_9 => ?_)
      · exact lc_9 hk6 hL hI tail
      refine wp_sw (fun h33_10 => ?_) (fun h33_10 => ?_)
      · exact lc_10 hk6 hL hI tail
      refine wp_sw (fun h33_11 => ?_) (fun h33_11 => ?_)
      · exact lc_11 hk6 hL hI tail
      refine wp_sw (fun h33_12 => ?_) (fun h33_12 => ?_)
      · exact lc_12 hk6 hL hI tail
      refine wp_sw (fun h33_13 => ?_) (fun h33_13 => ?_)
      · exact lc_13 hk6 hL hI tail
      refine wp_sw (fun h33_14 => ?_) (fun h33_14 => ?_)
      · exact lc_14 hk6 hL hI tail
      refine wp_sw (fun h33_15 => ?_) (fun h33_15 => ?_)
      · exact lc_15 hk6 hL hI tail
      refine wp_sw (fun h33_16 => ?_) (fun h33_16 => ?_)
      · exact lc_16 hk6 hL hI tail
      refine wp_sw (fun h33_17 => ?_) (fun h33_17 => ?_)
      · exact lc_17 hk6 hL hI tail
      refine wp_sw (fun h33_18 => ?_) (fun h33_18 => ?_)
      · exact lc_18 hk6 hL hI tail
      refine wp_sw (fun h33_19 => ?_) (fun h33_19 => ?_)
      · exact lc_19 hk6 hL hI tail
      refine wp_sw (fun h33_20 => ?_) (fun h33_20 => ?_)
      · exact lc_20 hk6 hL hI tail
      refine wp_sw (fun h33_21 => ?_) (fun h33_21 => ?_)
      · exact lc_21 hk6 hL hI tail
      refine wp_sw (fun h33_22 => ?_) (fun h33_22 => ?_)
      · exact lc_22 hk6 hL hI tail
      refine wp_sw0 ?_
      exact tail M R hI

set_option maxRecDepth 100000 in
set_option maxHeartbeats 4000000 in
theorem lw_body {γ : Gm} {l : Launch} {M : Mm} {R : Rm} {K : KT} (hL : γ.2.2.2.2.1 ≤ 3072) (hK : ∀ M1 R1, K (some (.int 1)) 243 M1 R1) : WP γ l mL_law 8 8 243 0 [some (.ref 4), none, none, none] [] 8 M R K := by
  refine wp_new (ci := 5) ⟨_, rfl, q11⟩ tA_8 (by omega) dL_law_0 ?_
  show WP γ l mL_law 8 8 243 3 [some (.ref 4), none, none, none] (.ref 8 :: []) 9 _ _ K
  refine wp_dup dL_law_3 rfl ?_
  refine wp_callI (z := mX5_init) (n' := 235) kL_9 dL_law_4 (Nat.le_of_ble_eq_true rfl) (Nat.le_of_ble_eq_true rfl) (Nat.le_of_ble_eq_true rfl) (by omega) (by omega) (s_X5_init (fun M1 R1 hn => (wp_af0 ?_)))
  refine wp_astore_n (L' := [some (.ref 4), some (.ref 8), none, none]) dL_law_7 (by decide) rfl ?_
  refine wp_new (ci := 6) ⟨_, rfl, q565⟩ tA_235 (by omega) dL_law_8 ?_
  show WP γ l mL_law 8 8 243 11 [some (.ref 4), some (.ref 8), none, none] (.ref 235 :: []) 236 _ _ K
  refine wp_dup dL_law_11 rfl ?_
  refine wp_callI (z := mX6_init) (n' := 243) kL_12 dL_law_12 (Nat.le_of_ble_eq_true rfl) (Nat.le_of_ble_eq_true rfl) (Nat.le_of_ble_eq_true rfl) (by omega) (by omega) (s_X6_init (fun j => z0_s _ _ j) (fun M2 R2 g1 g2 g3 g4 g5 => (wp_af0 ?_)))
  refine wp_astore_n (L' := [some (.ref 4), some (.ref 8), some (.ref 235), none]) dL_law_15 (by decide) rfl ?_
  refine wp_iconst (v := 0) dL_law_16 (by decide) ?_
  refine wp_istore_n (L' := [some (.ref 4), some (.ref 8), some (.ref 235), some (.int _)]) dL_law_17 (by decide) rfl ?_
  have hn2 := hn.mv (M2 := M2) (R2 := R2) (fun a ha => ⟨by rw [(g1 a ha).1, z0_n _ (by omega)], by rw [(g1 a ha).2, z0_n _ (by omega)]⟩)
  refine lw_loop hL hK 4001 0 M2 R2 (by omega) (by omega) ⟨0, 0, g3 3, g3 7, g2, ?_⟩
  have hc := (hn2.done (hsR M2) (slR M2) (M2 241)).1
  rw [← g4] at hc
  have e40 : M2 240 = fun _ => 0 := funext g5
  rw [e40]
  exact hc

