/-! THE LAW: each kind of call -/
set_option maxRecDepth 100000 in
set_option maxHeartbeats 4000000 in
theorem s_X6_best0 {γ : Gm} {l : Launch} {M : Mm} {R : Rm} {K : KT} {np ng : Nat} {k0 c0 m0 z : Int32} {sg : Nat → Int32} (hs : M 236 = sg) (hM : RM R) (ho : Ok0 sg np ng) (hA : (0 ≤ k0 ∧ k0 < nI np) ∧ (0 ≤ c0 ∧ c0 ≤ 39)) (hm : ¬ (1 ≤ m0 ∧ m0 ≤ 99)) (hK : K (some (.int (-2))) 243 M R) : CL γ l mX6_bestPeriod 4 243 243 [.ref 235, .int k0, .int c0, .int m0, .int z] M R K := by
  show WP γ l mX6_bestPeriod 4 243 243 0 [some (.ref 235), some (.int k0), some (.int c0), some (.int m0), some (.int z), none, none, none, none, none] [] 243 M R K
  refine wp_aload_n dX6_bestPeriod_0 rfl ?_
  refine wp_iload_n dX6_bestPeriod_1 rfl ?_
  refine wp_cV1 (z := mX6_isRank) (n' := 243) kX6_125 dX6_bestPeriod_2 (Nat.le_of_ble_eq_true rfl) (Nat.le_of_ble_eq_true rfl) tA_235 (Nat.le_of_ble_eq_true rfl) (Nat.le_of_ble_eq_true rfl) (Nat.le_refl _) (Nat.le_refl _) (s_X6_isRank hs hM ho.1.1 (by have := ho.1.2; omega) (wp_af ?_))
  refine wp_bq_eq (tgt := 15) dX6_bestPeriod_5 (by decide) (fun h5 => absurd hA.1 h5) (fun h5 => ?_)
  refine wp_iload_n dX6_bestPeriod_8 rfl ?_
  refine wp_cS1 (z := mX6_isCell) (n' := 243) kX6_102 dX6_bestPeriod_9 (Nat.le_of_ble_eq_true rfl) (Nat.le_of_ble_eq_true rfl) (Nat.le_of_ble_eq_true rfl) (Nat.le_refl _) (Nat.le_refl _) (s_X6_isCell (wp_af ?_))
  refine wp_bq_ne (tgt := 17) dX6_bestPeriod_12 (by decide) (fun h12 => ?_) (fun h12 => absurd hA.2 h12)
  refine wp_iload_n dX6_bestPeriod_17 rfl ?_
  refine wp_iconst (v := 1) dX6_bestPeriod_18 (by decide) ?_
  refine wp_bipush (v := 99) dX6_bestPeriod_19 (by decide) ?_
  refine wp_cS3 (z := mX6_within) (n' := 243) kX6_39 dX6_bestPeriod_21 (Nat.le_of_ble_eq_true rfl) (Nat.le_of_ble_eq_true rfl) (Nat.le_of_ble_eq_true rfl) (Nat.le_refl _) (Nat.le_refl _) (s_X6_within (wp_af ?_))
  refine wp_bq_eq (tgt := 37) dX6_bestPeriod_24 (by decide) (fun h24 => ?_) (fun h24 => absurd h24 hm)
  refine wp_bipush (v := (-2)) dX6_bestPeriod_37 (by decide) ?_
  exact wp_iret dX6_bestPeriod_39 rfl rfl rfl (hK)

set_option maxRecDepth 100000 in
set_option maxHeartbeats 4000000 in
theorem s_X5_best0 {γ : Gm} {l : Launch} {M : Mm} {R : Rm} {K : KT} {sg tx F : Nat → Int32} {rc pl : Nat} {hs S : Nat → Nat → Int32} {k0 c0 m0 z : Int32} (h : IC M R sg rc hs F S tx pl) (hA : (0 ≤ k0 ∧ k0 < nI (nP sg)) ∧ (0 ≤ c0 ∧ c0 ≤ 39)) (hm : ¬ (1 ≤ m0 ∧ m0 ≤ 99)) (hK : K (some (.int (-2))) 243 M R) : CL γ l mX5_bestPeriod 5 243 243 [.ref 8, .int k0, .int c0, .int m0, .int z] M R K := by
  show WP γ l mX5_bestPeriod 5 243 243 0 [some (.ref 8), some (.int k0), some (.int c0), some (.int m0), some (.int z), none, none, none, none] [] 243 M R K
  have hC := h.ib.gr.rc
  have h9 := h.ib.gr.r9
  refine wp_iload_n dX5_bestPeriod_0 rfl ?_
  refine wp_aload_n dX5_bestPeriod_1 rfl ?_
  refine wp_getQ fX5_10 tA_8 rfl hC.f0 (by decide) (Nat.le_of_ble_eq_true rfl) dX5_bestPeriod_2 ?_
  refine wp_getJ (v := nI (nP sg)) fX5_100 tb9.t0.1 rfl (by have := tb9.lt; omega) dX5_bestPeriod_5 (h.tk.cnp.trans h.ok.1.1.1) ?_
  refine wp_cS2 (z := mX5_isOutside) (n' := 243) kX5_78 dX5_bestPeriod_8 (Nat.le_of_ble_eq_true rfl) (Nat.le_of_ble_eq_true rfl) (Nat.le_of_ble_eq_true rfl) (Nat.le_refl _) (Nat.le_refl _) (s_X5_isOutside (wp_af ?_))
  refine wp_bq_ne (tgt := 23) dX5_bestPeriod_11 (by decide) (fun h11 => absurd h11 (out_n.mpr hA.1)) (fun h11 => ?_)
  refine wp_iload_n dX5_bestPeriod_14 rfl ?_
  refine wp_bipush (v := 40) dX5_bestPeriod_15 (by decide) ?_
  refine wp_cS2 (z := mX5_isOutside) (n' := 243) kX5_78 dX5_bestPeriod_17 (Nat.le_of_ble_eq_true rfl) (Nat.le_of_ble_eq_true rfl) (Nat.le_of_ble_eq_true rfl) (Nat.le_refl _) (Nat.le_refl _) (s_X5_isOutside (wp_af ?_))
  refine wp_bq_eq (tgt := 25) dX5_bestPeriod_20 (by decide) (fun h20 => ?_) (fun h20 => absurd h20 (out_40.mpr hA.2))
  refine wp_iload_n dX5_bestPeriod_25 rfl ?_
  refine wp_iconst (v := 1) dX5_bestPeriod_26 (by decide) ?_
  refine wp_icmp_lt (tgt := 45) dX5_bestPeriod_27 (by decide) (fun h27 => ?_) (fun h27 => ?_)
  · refine wp_bipush (v := (-2)) dX5_bestPeriod_45 (by decide) ?_
    exact wp_iret dX5_bestPeriod_47 rfl rfl rfl (hK)
  · refine wp_iload_n dX5_bestPeriod_30 rfl ?_
    refine wp_bipush (v := 99) dX5_bestPeriod_31 (by decide) ?_
    refine wp_icmp_gt (tgt := 45) dX5_bestPeriod_33 (by decide) (fun h33 => ?_) (fun h33 => absurd ⟨Int32.not_lt.mp h27, Int32.not_lt.mp h33⟩ hm)
    refine wp_bipush (v := (-2)) dX5_bestPeriod_45 (by decide) ?_
    exact wp_iret dX5_bestPeriod_47 rfl rfl rfl (hK)

set_option maxRecDepth 100000 in
set_option maxHeartbeats 4000000 in
theorem lc_0 {γ : Gm} {l : Launch} {M : Mm} {R : Rm} {K : KT} {k : Nat} (hk : k + 6 ≤ γ.2.2.2.2.1) (hL : γ.2.2.2.2.1 ≤ 3072) (hI : Inv M R) (hK : ∀ M3 R1, Inv M3 R1 → WP γ l mL_law 8 8 243 790 [some (.ref 4), some (.ref 8), some (.ref 235), some (.int (nI k))] [] 243 M3 R1 K) : WP γ l mL_law 8 8 243 140 [some (.ref 4), some (.ref 8), some (.ref 235), some (.int (nI k))] [] 243 M R K := by
  obtain ⟨rc, pl, hrc, hpl, hM, hc⟩ := hI
  have h6 := hc.ib.h6
  have hn4 := hc.ok.n4
  have hn5 := hc.ok.n5
  have hp6 := hc.ok.p6
  have hg4 := hc.ok.g4
  by_cases hw : svOk (γ.2.2.2.2.2 (k + 1)) (γ.2.2.2.2.2 (k + 2))
  · obtain ⟨q, hq, eq⟩ := sv_in hw
    refine wp_aload_n dL_law_140 rfl ?_
    refine wp_aload_n dL_law_141 rfl ?_
    refine wp_iload_n dL_law_142 rfl ?_
    refine wp_iconst (v := 1) dL_law_143 (by decide) ?_
    refine wp_iadd dL_law_144 ?_
    refine wp_sld (i := (k + 1)) (ix_add rfl rfl) (by omega) (by omega) dL_law_145 ?_
    refine wp_aload_n dL_law_146 rfl ?_
    refine wp_iload_n dL_law_147 rfl ?_
    refine wp_iconst (v := 2) dL_law_148 (by decide) ?_
    refine wp_iadd dL_law_149 ?_
    refine wp_sld (i := (k + 2)) (ix_add rfl rfl) (by omega) (by omega) dL_law_150 ?_
    refine wp_cV2 (z := mX5_set) (n' := 243) kL_13 dL_law_151 (Nat.le_of_ble_eq_true rfl) (Nat.le_of_ble_eq_true rfl) tA_8 (Nat.le_of_ble_eq_true rfl) (Nat.le_of_ble_eq_true rfl) (Nat.le_refl _) (Nat.le_refl _) (s_X5_set hc (fun hn => absurd hw hn) (fun _ i hi ei M1 R1 c1 f1 => (wp_af ?_)))
    have hM1 := hM.fc f1
    have hs1 : M1 236 = M 236 := (f1 236 (by omega)).1
    have hrc1 : M1 235 3 = nI rc := by rw [(f1 235 (by omega)).1]; exact hrc
    have hpl1 : M1 235 7 = nI pl := by rw [(f1 235 (by omega)).1]; exact hpl
    refine wp_aload_n dL_law_154 rfl ?_
    refine wp_aload_n dL_law_155 rfl ?_
    refine wp_iload_n dL_law_156 rfl ?_
    refine wp_iconst (v := 1) dL_law_157 (by decide) ?_
    refine wp_iadd dL_law_158 ?_
    refine wp_sld (i := (k + 1)) (ix_add rfl rfl) (by omega) (by omega) dL_law_159 ?_
    refine wp_aload_n dL_law_160 rfl ?_
    refine wp_iload_n dL_law_161 rfl ?_
    refine wp_iconst (v := 2) dL_law_162 (by decide) ?_
    refine wp_iadd dL_law_163 ?_
    refine wp_sld (i := (k + 2)) (ix_add rfl rfl) (by omega) (by omega) dL_law_164 ?_
    refine wp_cV2 (z := mX6_set) (n' := 243) kL_17 dL_law_165 (Nat.le_of_ble_eq_true rfl) (Nat.le_of_ble_eq_true rfl) tA_235 (Nat.le_of_ble_eq_true rfl) (Nat.le_of_ble_eq_true rfl) (Nat.le_refl _) (Nat.le_refl _) (s_X6_set hs1 hM1 hrc1 h6 (fun hn => absurd hw hn) (fun _ j hj ej M2 hp => (wp_af ?_)))
    obtain rfl := (nI_eq (by omega) (by omega)).mp (ei.symm.trans ej)
    refine wp_icmp_eq (tgt := 790) dL_law_168 (by decide) (fun hcm => ?_) (fun hcm => absurd rfl hcm)
    exact hK _ _ (Inv.rec hM h6 hpl f1 c1 hp _ (fun _ _ => rfl))
  · refine wp_aload_n dL_law_140 rfl ?_
    refine wp_aload_n dL_law_141 rfl ?_
    refine wp_iload_n dL_law_142 rfl ?_
    refine wp_iconst (v := 1) dL_law_143 (by decide) ?_
    refine wp_iadd dL_law_144 ?_
    refine wp_sld (i := (k + 1)) (ix_add rfl rfl) (by omega) (by omega) dL_law_145 ?_
    refine wp_aload_n dL_law_146 rfl ?_
    refine wp_iload_n dL_law_147 rfl ?_
    refine wp_iconst (v := 2) dL_law_148 (by decide) ?_
    refine wp_iadd dL_law_149 ?_
    refine wp_sld (i := (k + 2)) (ix_add rfl rfl) (by omega) (by omega) dL_law_150 ?_
    refine wp_cV2 (z := mX5_set) (n' := 243) kL_13 dL_law_151 (Nat.le_of_ble_eq_true rfl) (Nat.le_of_ble_eq_true rfl) tA_8 (Nat.le_of_ble_eq_true rfl) (Nat.le_of_ble_eq_true rfl) (Nat.le_refl _) (Nat.le_refl _) (s_X5_set hc (fun _ M1 c1 f1 => (wp_af ?_)) (fun hn => absurd hn hw))
    have hM1 := hM.fc f1
    have hs1 : M1 236 = M 236 := (f1 236 (by omega)).1
    have hrc1 : M1 235 3 = nI rc := by rw [(f1 235 (by omega)).1]; exact hrc
    have hpl1 : M1 235 7 = nI pl := by rw [(f1 235 (by omega)).1]; exact hpl
    refine wp_aload_n dL_law_154 rfl ?_
    refine wp_aload_n dL_law_155 rfl ?_
    refine wp_iload_n dL_law_156 rfl ?_
    refine wp_iconst (v := 1) dL_law_157 (by decide) ?_
    refine wp_iadd dL_law_158 ?_
    refine wp_sld (i := (k + 1)) (ix_add rfl rfl) (by omega) (by omega) dL_law_159 ?_
    refine wp_aload_n dL_law_160 rfl ?_
    refine wp_iload_n dL_law_161 rfl ?_
    refine wp_iconst (v := 2) dL_law_162 (by decide) ?_
    refine wp_iadd dL_law_163 ?_
    refine wp_sld (i := (k + 2)) (ix_add rfl rfl) (by omega) (by omega) dL_law_164 ?_
    refine wp_cV2 (z := mX6_set) (n' := 243) kL_17 dL_law_165 (Nat.le_of_ble_eq_true rfl) (Nat.le_of_ble_eq_true rfl) tA_235 (Nat.le_of_ble_eq_true rfl) (Nat.le_of_ble_eq_true rfl) (Nat.le_refl _) (Nat.le_refl _) (s_X6_set hs1 hM1 hrc1 h6 (fun _ => (wp_af ?_)) (fun hn => absurd hn hw))
    refine wp_icmp_eq (tgt := 790) dL_law_168 (by decide) (fun hcm => ?_) (fun hcm => absurd rfl hcm)
    exact hK _ _ (Inv.kp hM hrc hpl f1 c1 (VM.rf _))

set_option maxRecDepth 100000 in
set_option maxHeartbeats 4000000 in
theorem lc_1 {γ : Gm} {l : Launch} {M : Mm} {R : Rm} {K : KT} {k : Nat} (hk : k + 6 ≤ γ.2.2.2.2.1) (hL : γ.2.2.2.2.1 ≤ 3072) (hI : Inv M R) (hK : ∀ M3 R1, Inv M3 R1 → WP γ l mL_law 8 8 243 790 [some (.ref 4), some (.ref 8), some (.ref 235), some (.int (nI k))] [] 243 M3 R1 K) : WP γ l mL_law 8 8 243 173 [some (.ref 4), some (.ref 8), some (.ref 235), some (.int (nI k))] [] 243 M R K := by
  obtain ⟨rc, pl, hrc, hpl, hM, hc⟩ := hI
  have h6 := hc.ib.h6
  have hn4 := hc.ok.n4
  have hn5 := hc.ok.n5
  have hp6 := hc.ok.p6
  have hg4 := hc.ok.g4
  by_cases hw : whyP (M 236) (nP (M 236)) (γ.2.2.2.2.2 (k + 1)) (γ.2.2.2.2.2 (k + 2)) (γ.2.2.2.2.2 (k + 3)) (γ.2.2.2.2.2 (k + 4)) (γ.2.2.2.2.2 (k + 5)) < 0
  · refine wp_aload_n dL_law_173 rfl ?_
    refine wp_aload_n dL_law_174 rfl ?_
    refine wp_iload_n dL_law_175 rfl ?_
    refine wp_iconst (v := 1) dL_law_176 (by decide) ?_
    refine wp_iadd dL_law_177 ?_
    refine wp_sld (i := (k + 1)) (ix_add rfl rfl) (by omega) (by omega) dL_law_178 ?_
    refine wp_aload_n dL_law_179 rfl ?_
    refine wp_iload_n dL_law_180 rfl ?_
    refine wp_iconst (v := 2) dL_law_181 (by decide) ?_
    refine wp_iadd dL_law_182 ?_
    refine wp_sld (i := (k + 2)) (ix_add rfl rfl) (by omega) (by omega) dL_law_183 ?_
    refine wp_aload_n dL_law_184 rfl ?_
    refine wp_iload_n dL_law_185 rfl ?_
    refine wp_iconst (v := 3) dL_law_186 (by decide) ?_
    refine wp_iadd dL_law_187 ?_
    refine wp_sld (i := (k + 3)) (ix_add rfl rfl) (by omega) (by omega) dL_law_188 ?_
    refine wp_aload_n dL_law_189 rfl ?_
    refine wp_iload_n dL_law_190 rfl ?_
    refine wp_iconst (v := 4) dL_law_191 (by decide) ?_
    refine wp_iadd dL_law_192 ?_
    refine wp_sld (i := (k + 4)) (ix_add rfl rfl) (by omega) (by omega) dL_law_193 ?_
    refine wp_aload_n dL_law_194 rfl ?_
    refine wp_iload_n dL_law_195 rfl ?_
    refine wp_iconst (v := 5) dL_law_196 (by decide) ?_
    refine wp_iadd dL_law_197 ?_
    refine wp_sld (i := (k + 5)) (ix_add rfl rfl) (by omega) (by omega) dL_law_198 ?_
    refine wp_cV5 (z := mX5_paddle) (n' := 243) kL_18 dL_law_199 (Nat.le_of_ble_eq_true rfl) (Nat.le_of_ble_eq_true rfl) tA_8 (Nat.le_of_ble_eq_true rfl) (Nat.le_of_ble_eq_true rfl) (Nat.le_refl _) (Nat.le_refl _) (s_X5_paddle hc (fun _ M1 c1 f1 => (wp_af ?_)) (fun hn => absurd hw hn))
    have hM1 := hM.fc f1
    have hs1 : M1 236 = M 236 := (f1 236 (by omega)).1
    have hrc1 : M1 235 3 = nI rc := by rw [(f1 235 (by omega)).1]; exact hrc
    have hpl1 : M1 235 7 = nI pl := by rw [(f1 235 (by omega)).1]; exact hpl
    refine wp_aload_n dL_law_202 rfl ?_
    refine wp_aload_n dL_law_203 rfl ?_
    refine wp_iload_n dL_law_204 rfl ?_
    refine wp_iconst (v := 1) dL_law_205 (by decide) ?_
    refine wp_iadd dL_law_206 ?_
    refine wp_sld (i := (k + 1)) (ix_add rfl rfl) (by omega) (by omega) dL_law_207 ?_
    refine wp_aload_n dL_law_208 rfl ?_
    refine wp_iload_n dL_law_209 rfl ?_
    refine wp_iconst (v := 2) dL_law_210 (by decide) ?_
    refine wp_iadd dL_law_211 ?_
    refine wp_sld (i := (k + 2)) (ix_add rfl rfl) (by omega) (by omega) dL_law_212 ?_
    refine wp_aload_n dL_law_213 rfl ?_
    refine wp_iload_n dL_law_214 rfl ?_
    refine wp_iconst (v := 3) dL_law_215 (by decide) ?_
    refine wp_iadd dL_law_216 ?_
    refine wp_sld (i := (k + 3)) (ix_add rfl rfl) (by omega) (by omega) dL_law_217 ?_
    refine wp_aload_n dL_law_218 rfl ?_
    refine wp_iload_n dL_law_219 rfl ?_
    refine wp_iconst (v := 4) dL_law_220 (by decide) ?_
    refine wp_iadd dL_law_221 ?_
    refine wp_sld (i := (k + 4)) (ix_add rfl rfl) (by omega) (by omega) dL_law_222 ?_
    refine wp_aload_n dL_law_223 rfl ?_
    refine wp_iload_n dL_law_224 rfl ?_
    refine wp_iconst (v := 5) dL_law_225 (by decide) ?_
    refine wp_iadd dL_law_226 ?_
    refine wp_sld (i := (k + 5)) (ix_add rfl rfl) (by omega) (by omega) dL_law_227 ?_
    refine wp_cV5 (z := mX6_paddle) (n' := 243) kL_22 dL_law_228 (Nat.le_of_ble_eq_true rfl) (Nat.le_of_ble_eq_true rfl) tA_235 (Nat.le_of_ble_eq_true rfl) (Nat.le_of_ble_eq_true rfl) (Nat.le_refl _) (Nat.le_refl _) (s_X6_paddle hs1 hM1 hrc1 h6 hn4 hp6 (fun _ => (wp_af ?_)) (fun hn => absurd hw hn))
    refine wp_icmp_eq (tgt := 790) dL_law_231 (by decide) (fun hcm => ?_) (fun hcm => absurd rfl hcm)
    exact hK _ _ (Inv.kp hM hrc hpl f1 c1 (VM.rf _))
  · refine wp_aload_n dL_law_173 rfl ?_
    refine wp_aload_n dL_law_174 rfl ?_
    refine wp_iload_n dL_law_175 rfl ?_
    refine wp_iconst (v := 1) dL_law_176 (by decide) ?_
    refine wp_iadd dL_law_177 ?_
    refine wp_sld (i := (k + 1)) (ix_add rfl rfl) (by omega) (by omega) dL_law_178 ?_
    refine wp_aload_n dL_law_179 rfl ?_
    refine wp_iload_n dL_law_180 rfl ?_
    refine wp_iconst (v := 2) dL_law_181 (by decide) ?_
    refine wp_iadd dL_law_182 ?_
    refine wp_sld (i := (k + 2)) (ix_add rfl rfl) (by omega) (by omega) dL_law_183 ?_
    refine wp_aload_n dL_law_184 rfl ?_
    refine wp_iload_n dL_law_185 rfl ?_
    refine wp_iconst (v := 3) dL_law_186 (by decide) ?_
    refine wp_iadd dL_law_187 ?_
    refine wp_sld (i := (k + 3)) (ix_add rfl rfl) (by omega) (by omega) dL_law_188 ?_
    refine wp_aload_n dL_law_189 rfl ?_
    refine wp_iload_n dL_law_190 rfl ?_
    refine wp_iconst (v := 4) dL_law_191 (by decide) ?_
    refine wp_iadd dL_law_192 ?_
    refine wp_sld (i := (k + 4)) (ix_add rfl rfl) (by omega) (by omega) dL_law_193 ?_
    refine wp_aload_n dL_law_194 rfl ?_
    refine wp_iload_n dL_law_195 rfl ?_
    refine wp_iconst (v := 5) dL_law_196 (by decide) ?_
    refine wp_iadd dL_law_197 ?_
    refine wp_sld (i := (k + 5)) (ix_add rfl rfl) (by omega) (by omega) dL_law_198 ?_
    refine wp_cV5 (z := mX5_paddle) (n' := 243) kL_18 dL_law_199 (Nat.le_of_ble_eq_true rfl) (Nat.le_of_ble_eq_true rfl) tA_8 (Nat.le_of_ble_eq_true rfl) (Nat.le_of_ble_eq_true rfl) (Nat.le_refl _) (Nat.le_refl _) (s_X5_paddle hc (fun hn => absurd hn hw) (fun _ M1 R1 c1 f1 => (wp_af ?_)))
    have hM1 := hM.fc f1
    have hs1 : M1 236 = M 236 := (f1 236 (by omega)).1
    have hrc1 : M1 235 3 = nI rc := by rw [(f1 235 (by omega)).1]; exact hrc
    have hpl1 : M1 235 7 = nI pl := by rw [(f1 235 (by omega)).1]; exact hpl
    refine wp_aload_n dL_law_202 rfl ?_
    refine wp_aload_n dL_law_203 rfl ?_
    refine wp_iload_n dL_law_204 rfl ?_
    refine wp_iconst (v := 1) dL_law_205 (by decide) ?_
    refine wp_iadd dL_law_206 ?_
    refine wp_sld (i := (k + 1)) (ix_add rfl rfl) (by omega) (by omega) dL_law_207 ?_
    refine wp_aload_n dL_law_208 rfl ?_
    refine wp_iload_n dL_law_209 rfl ?_
    refine wp_iconst (v := 2) dL_law_210 (by decide) ?_
    refine wp_iadd dL_law_211 ?_
    refine wp_sld (i := (k + 2)) (ix_add rfl rfl) (by omega) (by omega) dL_law_212 ?_
    refine wp_aload_n dL_law_213 rfl ?_
    refine wp_iload_n dL_law_214 rfl ?_
    refine wp_iconst (v := 3) dL_law_215 (by decide) ?_
    refine wp_iadd dL_law_216 ?_
    refine wp_sld (i := (k + 3)) (ix_add rfl rfl) (by omega) (by omega) dL_law_217 ?_
    refine wp_aload_n dL_law_218 rfl ?_
    refine wp_iload_n dL_law_219 rfl ?_
    refine wp_iconst (v := 4) dL_law_220 (by decide) ?_
    refine wp_iadd dL_law_221 ?_
    refine wp_sld (i := (k + 4)) (ix_add rfl rfl) (by omega) (by omega) dL_law_222 ?_
    refine wp_aload_n dL_law_223 rfl ?_
    refine wp_iload_n dL_law_224 rfl ?_
    refine wp_iconst (v := 5) dL_law_225 (by decide) ?_
    refine wp_iadd dL_law_226 ?_
    refine wp_sld (i := (k + 5)) (ix_add rfl rfl) (by omega) (by omega) dL_law_227 ?_
    refine wp_cV5 (z := mX6_paddle) (n' := 243) kL_22 dL_law_228 (Nat.le_of_ble_eq_true rfl) (Nat.le_of_ble_eq_true rfl) tA_235 (Nat.le_of_ble_eq_true rfl) (Nat.le_of_ble_eq_true rfl) (Nat.le_refl _) (Nat.le_refl _) (s_X6_paddle hs1 hM1 hrc1 h6 hn4 hp6 (fun hn => absurd hn hw) (fun _ M2 hp => (wp_af ?_)))
    refine wp_icmp_eq (tgt := 790) dL_law_231 (by decide) (fun hcm => ?_) (fun hcm => absurd rfl hcm)
    exact hK _ _ (Inv.rec hM h6 hpl f1 c1 hp _ (fun _ _ => rfl))

set_option maxRecDepth 100000 in
set_option maxHeartbeats 4000000 in
theorem lc_2 {γ : Gm} {l : Launch} {M : Mm} {R : Rm} {K : KT} {k : Nat} (hk : k + 6 ≤ γ.2.2.2.2.1) (hL : γ.2.2.2.2.1 ≤ 3072) (hI : Inv M R) (hK : ∀ M3 R1, Inv M3 R1 → WP γ l mL_law 8 8 243 790 [some (.ref 4), some (.ref 8), some (.ref 235), some (.int (nI k))] [] 243 M3 R1 K) : WP γ l mL_law 8 8 243 236 [some (.ref 4), some (.ref 8), some (.ref 235), some (.int (nI k))] [] 243 M R K := by
  obtain ⟨rc, pl, hrc, hpl, hM, hc⟩ := hI
  have h6 := hc.ib.h6
  have hn4 := hc.ok.n4
  have hn5 := hc.ok.n5
  have hp6 := hc.ok.p6
  have hg4 := hc.ok.g4
  by_cases hw : rkU (M 236) (γ.2.2.2.2.2 (k + 1)) (nP (M 236)) = -6
  · refine wp_aload_n dL_law_236 rfl ?_
    refine wp_aload_n dL_law_237 rfl ?_
    refine wp_iload_n dL_law_238 rfl ?_
    refine wp_iconst (v := 1) dL_law_239 (by decide) ?_
    refine wp_iadd dL_law_240 ?_
    refine wp_sld (i := (k + 1)) (ix_add rfl rfl) (by omega) (by omega) dL_law_241 ?_
    refine wp_cV1 (z := mX5_lift) (n' := 243) kL_23 dL_law_242 (Nat.le_of_ble_eq_true rfl) (Nat.le_of_ble_eq_true rfl) tA_8 (Nat.le_of_ble_eq_true rfl) (Nat.le_of_ble_eq_true rfl) (Nat.le_refl _) (Nat.le_refl _) (s_X5_lift hc (fun _ M1 c1 f1 => (wp_af ?_)) (fun q _ e => absurd (e.symm.trans hw) (nI_m6 (by omega))))
    have hM1 := hM.fc f1
    have hs1 : M1 236 = M 236 := (f1 236 (by omega)).1
    have hrc1 : M1 235 3 = nI rc := by rw [(f1 235 (by omega)).1]; exact hrc
    have hpl1 : M1 235 7 = nI pl := by rw [(f1 235 (by omega)).1]; exact hpl
    refine wp_aload_n dL_law_245 rfl ?_
    refine wp_aload_n dL_law_246 rfl ?_
    refine wp_iload_n dL_law_247 rfl ?_
    refine wp_iconst (v := 1) dL_law_248 (by decide) ?_
    refine wp_iadd dL_law_249 ?_
    refine wp_sld (i := (k + 1)) (ix_add rfl rfl) (by omega) (by omega) dL_law_250 ?_
    refine wp_cV1 (z := mX6_lift) (n' := 243) kL_27 dL_law_251 (Nat.le_of_ble_eq_true rfl) (Nat.le_of_ble_eq_true rfl) tA_235 (Nat.le_of_ble_eq_true rfl) (Nat.le_of_ble_eq_true rfl) (Nat.le_refl _) (Nat.le_refl _) (s_X6_lift hs1 hM1 hrc1 h6 hn4 hp6 (fun _ => (wp_af ?_)) (fun q _ e => absurd (e.symm.trans hw) (nI_m6 (by omega))))
    refine wp_icmp_eq (tgt := 790) dL_law_254 (by decide) (fun hcm => ?_) (fun hcm => absurd rfl hcm)
    exact hK _ _ (Inv.kp hM hrc hpl f1 c1 (VM.rf _))
  · refine wp_aload_n dL_law_236 rfl ?_
    refine wp_aload_n dL_law_237 rfl ?_
    refine wp_iload_n dL_law_238 rfl ?_
    refine wp_iconst (v := 1) dL_law_239 (by decide) ?_
    refine wp_iadd dL_law_240 ?_
    refine wp_sld (i := (k + 1)) (ix_add rfl rfl) (by omega) (by omega) dL_law_241 ?_
    refine wp_cV1 (z := mX5_lift) (n' := 243) kL_23 dL_law_242 (Nat.le_of_ble_eq_true rfl) (Nat.le_of_ble_eq_true rfl) tA_8 (Nat.le_of_ble_eq_true rfl) (Nat.le_of_ble_eq_true rfl) (Nat.le_refl _) (Nat.le_refl _) (s_X5_lift hc (fun hn => absurd hn hw) (fun i hi ei M1 R1 c1 f1 => (wp_af ?_)))
    have hM1 := hM.fc f1
    have hs1 : M1 236 = M 236 := (f1 236 (by omega)).1
    have hrc1 : M1 235 3 = nI rc := by rw [(f1 235 (by omega)).1]; exact hrc
    have hpl1 : M1 235 7 = nI pl := by rw [(f1 235 (by omega)).1]; exact hpl
    refine wp_aload_n dL_law_245 rfl ?_
    refine wp_aload_n dL_law_246 rfl ?_
    refine wp_iload_n dL_law_247 rfl ?_
    refine wp_iconst (v := 1) dL_law_248 (by decide) ?_
    refine wp_iadd dL_law_249 ?_
    refine wp_sld (i := (k + 1)) (ix_add rfl rfl) (by omega) (by omega) dL_law_250 ?_
    refine wp_cV1 (z := mX6_lift) (n' := 243) kL_27 dL_law_251 (Nat.le_of_ble_eq_true rfl) (Nat.le_of_ble_eq_true rfl) tA_235 (Nat.le_of_ble_eq_true rfl) (Nat.le_of_ble_eq_true rfl) (Nat.le_refl _) (Nat.le_refl _) (s_X6_lift hs1 hM1 hrc1 h6 hn4 hp6 (fun hn => absurd hn hw) (fun j hj ej M2 hp => (wp_af ?_)))
    obtain rfl := (nI_eq (by omega) (by omega)).mp (ei.symm.trans ej)
    refine wp_icmp_eq (tgt := 790) dL_law_254 (by decide) (fun hcm => ?_) (fun hcm => absurd rfl hcm)
    exact hK _ _ (Inv.rec hM h6 hpl f1 c1 hp _ (fun _ _ => rfl))

set_option maxRecDepth 100000 in
set_option maxHeartbeats 4000000 in
theorem lc_3 {γ : Gm} {l : Launch} {M : Mm} {R : Rm} {K : KT} {k : Nat} (hk : k + 6 ≤ γ.2.2.2.2.1) (hL : γ.2.2.2.2.1 ≤ 3072) (hI : Inv M R) (hK : ∀ M3 R1, Inv M3 R1 → WP γ l mL_law 8 8 243 790 [some (.ref 4), some (.ref 8), some (.ref 235), some (.int (nI k))] [] 243 M3 R1 K) : WP γ l mL_law 8 8 243 259 [some (.ref 4), some (.ref 8), some (.ref 235), some (.int (nI k))] [] 243 M R K := by
  obtain ⟨rc, pl, hrc, hpl, hM, hc⟩ := hI
  have h6 := hc.ib.h6
  have hn4 := hc.ok.n4
  have hn5 := hc.ok.n5
  have hp6 := hc.ok.p6
  have hg4 := hc.ok.g4
  by_cases hw : rkU (M 236) (γ.2.2.2.2.2 (k + 1)) (nP (M 236)) = -6
  · refine wp_aload_n dL_law_259 rfl ?_
    refine wp_aload_n dL_law_260 rfl ?_
    refine wp_iload_n dL_law_261 rfl ?_
    refine wp_iconst (v := 1) dL_law_262 (by decide) ?_
    refine wp_iadd dL_law_263 ?_
    refine wp_sld (i := (k + 1)) (ix_add rfl rfl) (by omega) (by omega) dL_law_264 ?_
    refine wp_cV1 (z := mX5_again) (n' := 243) kL_28 dL_law_265 (Nat.le_of_ble_eq_true rfl) (Nat.le_of_ble_eq_true rfl) tA_8 (Nat.le_of_ble_eq_true rfl) (Nat.le_of_ble_eq_true rfl) (Nat.le_refl _) (Nat.le_refl _) (s_X5_again hc (fun _ M1 c1 f1 => (wp_af ?_)) (fun q _ e => absurd (e.symm.trans hw) (nI_m6 (by omega))))
    have hM1 := hM.fc f1
    have hs1 : M1 236 = M 236 := (f1 236 (by omega)).1
    have hrc1 : M1 235 3 = nI rc := by rw [(f1 235 (by omega)).1]; exact hrc
    have hpl1 : M1 235 7 = nI pl := by rw [(f1 235 (by omega)).1]; exact hpl
    refine wp_aload_n dL_law_268 rfl ?_
    refine wp_aload_n dL_law_269 rfl ?_
    refine wp_iload_n dL_law_270 rfl ?_
    refine wp_iconst (v := 1) dL_law_271 (by decide) ?_
    refine wp_iadd dL_law_272 ?_
    refine wp_sld (i := (k + 1)) (ix_add rfl rfl) (by omega) (by omega) dL_law_273 ?_
    refine wp_cV1 (z := mX6_again) (n' := 243) kL_31 dL_law_274 (Nat.le_of_ble_eq_true rfl) (Nat.le_of_ble_eq_true rfl) tA_235 (Nat.le_of_ble_eq_true rfl) (Nat.le_of_ble_eq_true rfl) (Nat.le_refl _) (Nat.le_refl _) (s_X6_again hs1 hM1 hrc1 h6 hn4 hp6 (fun _ => (wp_af ?_)) (fun q _ e => absurd (e.symm.trans hw) (nI_m6 (by omega))))
    refine wp_icmp_eq (tgt := 790) dL_law_277 (by decide) (fun hcm => ?_) (fun hcm => absurd rfl hcm)
    exact hK _ _ (Inv.kp hM hrc hpl f1 c1 (VM.rf _))
  · refine wp_aload_n dL_law_259 rfl ?_
    refine wp_aload_n dL_law_260 rfl ?_
    refine wp_iload_n dL_law_261 rfl ?_
    refine wp_iconst (v := 1) dL_law_262 (by decide) ?_
    refine wp_iadd dL_law_263 ?_
    refine wp_sld (i := (k + 1)) (ix_add rfl rfl) (by omega) (by omega) dL_law_264 ?_
    refine wp_cV1 (z := mX5_again) (n' := 243) kL_28 dL_law_265 (Nat.le_of_ble_eq_true rfl) (Nat.le_of_ble_eq_true rfl) tA_8 (Nat.le_of_ble_eq_true rfl) (Nat.le_of_ble_eq_true rfl) (Nat.le_refl _) (Nat.le_refl _) (s_X5_again hc (fun hn => absurd hn hw) (fun i hi ei M1 R1 c1 f1 => (wp_af ?_)))
    have hM1 := hM.fc f1
    have hs1 : M1 236 = M 236 := (f1 236 (by omega)).1
    have hrc1 : M1 235 3 = nI rc := by rw [(f1 235 (by omega)).1]; exact hrc
    have hpl1 : M1 235 7 = nI pl := by rw [(f1 235 (by omega)).1]; exact hpl
    refine wp_aload_n dL_law_268 rfl ?_
    refine wp_aload_n dL_law_269 rfl ?_
    refine wp_iload_n dL_law_270 rfl ?_
    refine wp_iconst (v := 1) dL_law_271 (by decide) ?_
    refine wp_iadd dL_law_272 ?_
    refine wp_sld (i := (k + 1)) (ix_add rfl rfl) (by omega) (by omega) dL_law_273 ?_
    refine wp_cV1 (z := mX6_again) (n' := 243) kL_31 dL_law_274 (Nat.le_of_ble_eq_true rfl) (Nat.le_of_ble_eq_true rfl) tA_235 (Nat.le_of_ble_eq_true rfl) (Nat.le_of_ble_eq_true rfl) (Nat.le_refl _) (Nat.le_refl _) (s_X6_again hs1 hM1 hrc1 h6 hn4 hp6 (fun hn => absurd hn hw) (fun j hj ej M2 hp => (wp_af ?_)))
    obtain rfl := (nI_eq (by omega) (by omega)).mp (ei.symm.trans ej)
    refine wp_icmp_eq (tgt := 790) dL_law_277 (by decide) (fun hcm => ?_) (fun hcm => absurd rfl hcm)
    exact hK _ _ (Inv.rec hM h6 hpl f1 c1 hp _ (fun _ _ => rfl))

set_option maxRecDepth 100000 in
set_option maxHeartbeats 4000000 in
theorem lc_4 {γ : Gm} {l : Launch} {M : Mm} {R : Rm} {K : KT} {k : Nat} (hk : k + 6 ≤ γ.2.2.2.2.1) (hL : γ.2.2.2.2.1 ≤ 3072) (hI : Inv M R) (hK : ∀ M3 R1, Inv M3 R1 → WP γ l mL_law 8 8 243 790 [some (.ref 4), some (.ref 8), some (.ref 235), some (.int (nI k))] [] 243 M3 R1 K) : WP γ l mL_law 8 8 243 282 [some (.ref 4), some (.ref 8), some (.ref 235), some (.int (nI k))] [] 243 M R K := by
  obtain ⟨rc, pl, hrc, hpl, hM, hc⟩ := hI
  have h6 := hc.ib.h6
  have hn4 := hc.ok.n4
  have hn5 := hc.ok.n5
  have hp6 := hc.ok.p6
  have hg4 := hc.ok.g4
  by_cases hw : whyG (nG (M 236)) (γ.2.2.2.2.2 (k + 1)) < 0
  · refine wp_aload_n dL_law_282 rfl ?_
    refine wp_aload_n dL_law_283 rfl ?_
    refine wp_iload_n dL_law_284 rfl ?_
    refine wp_iconst (v := 1) dL_law_285 (by decide) ?_
    refine wp_iadd dL_law_286 ?_
    refine wp_sld (i := (k + 1)) (ix_add rfl rfl) (by omega) (by omega) dL_law_287 ?_
    refine wp_cV1 (z := mX5_gauge) (n' := 243) kL_32 dL_law_288 (Nat.le_of_ble_eq_true rfl) (Nat.le_of_ble_eq_true rfl) tA_8 (Nat.le_of_ble_eq_true rfl) (Nat.le_of_ble_eq_true rfl) (Nat.le_refl _) (Nat.le_refl _) (s_X5_gauge hc (fun _ M1 c1 f1 => (wp_af ?_)) (fun hn => absurd hw hn))
    have hM1 := hM.fc f1
    have hs1 : M1 236 = M 236 := (f1 236 (by omega)).1
    have hrc1 : M1 235 3 = nI rc := by rw [(f1 235 (by omega)).1]; exact hrc
    have hpl1 : M1 235 7 = nI pl := by rw [(f1 235 (by omega)).1]; exact hpl
    refine wp_aload_n dL_law_291 rfl ?_
    refine wp_aload_n dL_law_292 rfl ?_
    refine wp_iload_n dL_law_293 rfl ?_
    refine wp_iconst (v := 1) dL_law_294 (by decide) ?_
    refine wp_iadd dL_law_295 ?_
    refine wp_sld (i := (k + 1)) (ix_add rfl rfl) (by omega) (by omega) dL_law_296 ?_
    refine wp_cV1 (z := mX6_gauge) (n' := 243) kL_35 dL_law_297 (Nat.le_of_ble_eq_true rfl) (Nat.le_of_ble_eq_true rfl) tA_235 (Nat.le_of_ble_eq_true rfl) (Nat.le_of_ble_eq_true rfl) (Nat.le_refl _) (Nat.le_refl _) (s_X6_gauge hs1 hM1 hrc1 h6 hn5 hg4 (fun _ => (wp_af ?_)) (fun hn => absurd hw hn))
    refine wp_icmp_eq (tgt := 790) dL_law_300 (by decide) (fun hcm => ?_) (fun hcm => absurd rfl hcm)
    exact hK _ _ (Inv.kp hM hrc hpl f1 c1 (VM.rf _))
  · refine wp_aload_n dL_law_282 rfl ?_
    refine wp_aload_n dL_law_283 rfl ?_
    refine wp_iload_n dL_law_284 rfl ?_
    refine wp_iconst (v := 1) dL_law_285 (by decide) ?_
    refine wp_iadd dL_law_286 ?_
    refine wp_sld (i := (k + 1)) (ix_add rfl rfl) (by omega) (by omega) dL_law_287 ?_
    refine wp_cV1 (z := mX5_gauge) (n' := 243) kL_32 dL_law_288 (Nat.le_of_ble_eq_true rfl) (Nat.le_of_ble_eq_true rfl) tA_8 (Nat.le_of_ble_eq_true rfl) (Nat.le_of_ble_eq_true rfl) (Nat.le_refl _) (Nat.le_refl _) (s_X5_gauge hc (fun hn => absurd hn hw) (fun _ M1 R1 c1 f1 => (wp_af ?_)))
    have hM1 := hM.fc f1
    have hs1 : M1 236 = M 236 := (f1 236 (by omega)).1
    have hrc1 : M1 235 3 = nI rc := by rw [(f1 235 (by omega)).1]; exact hrc
    have hpl1 : M1 235 7 = nI pl := by rw [(f1 235 (by omega)).1]; exact hpl
    refine wp_aload_n dL_law_291 rfl ?_
    refine wp_aload_n dL_law_292 rfl ?_
    refine wp_iload_n dL_law_293 rfl ?_
    refine wp_iconst (v := 1) dL_law_294 (by decide) ?_
    refine wp_iadd dL_law_295 ?_
    refine wp_sld (i := (k + 1)) (ix_add rfl rfl) (by omega) (by omega) dL_law_296 ?_
    refine wp_cV1 (z := mX6_gauge) (n' := 243) kL_35 dL_law_297 (Nat.le_of_ble_eq_true rfl) (Nat.le_of_ble_eq_true rfl) tA_235 (Nat.le_of_ble_eq_true rfl) (Nat.le_of_ble_eq_true rfl) (Nat.le_refl _) (Nat.le_refl _) (s_X6_gauge hs1 hM1 hrc1 h6 hn5 hg4 (fun hn => absurd hn hw) (fun _ _ M2 hp => (wp_af ?_)))
    refine wp_icmp_eq (tgt := 790) dL_law_300 (by decide) (fun hcm => ?_) (fun hcm => absurd rfl hcm)
    exact hK _ _ (Inv.rec hM h6 hpl f1 c1 hp _ (fun _ _ => rfl))

set_option maxRecDepth 100000 in
set_option maxHeartbeats 4000000 in
theorem lc_5 {γ : Gm} {l : Launch} {M : Mm} {R : Rm} {K : KT} {k : Nat} (hk : k + 6 ≤ γ.2.2.2.2.1) (hL : γ.2.2.2.2.1 ≤ 3072) (hI : Inv M R) (hK : ∀ M3 R1, Inv M3 R1 → WP γ l mL_law 8 8 243 790 [some (.ref 4), some (.ref 8), some (.ref 235), some (.int (nI k))] [] 243 M3 R1 K) : WP γ l mL_law 8 8 243 305 [some (.ref 4), some (.ref 8), some (.ref 235), some (.int (nI k))] [] 243 M R K := by
  obtain ⟨rc, pl, hrc, hpl, hM, hc⟩ := hI
  have h6 := hc.ib.h6
  have hn4 := hc.ok.n4
  have hn5 := hc.ok.n5
  have hp6 := hc.ok.p6
  have hg4 := hc.ok.g4
  by_cases hc0 : 0 ≤ (γ.2.2.2.2.2 (k + 1)) ∧ (γ.2.2.2.2.2 (k + 1)) ≤ 39
  · by_cases hv : -9999 ≤ (γ.2.2.2.2.2 (k + 2)) ∧ (γ.2.2.2.2.2 (k + 2)) ≤ 9999
    · refine wp_aload_n dL_law_305 rfl ?_
      refine wp_aload_n dL_law_306 rfl ?_
      refine wp_iload_n dL_law_307 rfl ?_
      refine wp_iconst (v := 1) dL_law_308 (by decide) ?_
      refine wp_iadd dL_law_309 ?_
      refine wp_sld (i := (k + 1)) (ix_add rfl rfl) (by omega) (by omega) dL_law_310 ?_
      refine wp_aload_n dL_law_311 rfl ?_
      refine wp_iload_n dL_law_312 rfl ?_
      refine wp_iconst (v := 2) dL_law_313 (by decide) ?_
      refine wp_iadd dL_law_314 ?_
      refine wp_sld (i := (k + 2)) (ix_add rfl rfl) (by omega) (by omega) dL_law_315 ?_
      refine wp_cV2 (z := mX5_level) (n' := 243) kL_36 dL_law_316 (Nat.le_of_ble_eq_true rfl) (Nat.le_of_ble_eq_true rfl) tA_8 (Nat.le_of_ble_eq_true rfl) (Nat.le_of_ble_eq_true rfl) (Nat.le_refl _) (Nat.le_refl _) (s_X5_level hc (fun hn => absurd hc0 hn) (fun _ hn => absurd hv hn) (fun _ i hi ei M1 R1 c1 f1 => (wp_af ?_)))
      have hM1 := hM.fc f1
      have hs1 : M1 236 = M 236 := (f1 236 (by omega)).1
      have hrc1 : M1 235 3 = nI rc := by rw [(f1 235 (by omega)).1]; exact hrc
      have hpl1 : M1 235 7 = nI pl := by rw [(f1 235 (by omega)).1]; exact hpl
      refine wp_aload_n dL_law_319 rfl ?_
      refine wp_aload_n dL_law_320 rfl ?_
      refine wp_iload_n dL_law_321 rfl ?_
      refine wp_iconst (v := 1) dL_law_322 (by decide) ?_
      refine wp_iadd dL_law_323 ?_
      refine wp_sld (i := (k + 1)) (ix_add rfl rfl) (by omega) (by omega) dL_law_324 ?_
      refine wp_aload_n dL_law_325 rfl ?_
      refine wp_iload_n dL_law_326 rfl ?_
      refine wp_iconst (v := 2) dL_law_327 (by decide) ?_
      refine wp_iadd dL_law_328 ?_
      refine wp_sld (i := (k + 2)) (ix_add rfl rfl) (by omega) (by omega) dL_law_329 ?_
      refine wp_cV2 (z := mX6_level) (n' := 243) kL_39 dL_law_330 (Nat.le_of_ble_eq_true rfl) (Nat.le_of_ble_eq_true rfl) tA_235 (Nat.le_of_ble_eq_true rfl) (Nat.le_of_ble_eq_true rfl) (Nat.le_refl _) (Nat.le_refl _) (s_X6_level hs1 hM1 hrc1 h6 (fun hn => absurd hc0 hn) (fun _ hn => absurd hv hn) (fun _ j hj ej M2 hp => (wp_af ?_)))
      obtain rfl := (nI_eq (by omega) (by omega)).mp (ei.symm.trans ej)
      refine wp_icmp_eq (tgt := 790) dL_law_333 (by decide) (fun hcm => ?_) (fun hcm => absurd rfl hcm)
      exact hK _ _ (Inv.rec hM h6 hpl f1 c1 hp _ (fun _ _ => rfl))
    · refine wp_aload_n dL_law_305 rfl ?_
      refine wp_aload_n dL_law_306 rfl ?_
      refine wp_iload_n dL_law_307 rfl ?_
      refine wp_iconst (v := 1) dL_law_308 (by decide) ?_
      refine wp_iadd dL_law_309 ?_
      refine wp_sld (i := (k + 1)) (ix_add rfl rfl) (by omega) (by omega) dL_law_310 ?_
      refine wp_aload_n dL_law_311 rfl ?_
      refine wp_iload_n dL_law_312 rfl ?_
      refine wp_iconst (v := 2) dL_law_313 (by decide) ?_
      refine wp_iadd dL_law_314 ?_
      refine wp_sld (i := (k + 2)) (ix_add rfl rfl) (by omega) (by omega) dL_law_315 ?_
      refine wp_cV2 (z := mX5_level) (n' := 243) kL_36 dL_law_316 (Nat.le_of_ble_eq_true rfl) (Nat.le_of_ble_eq_true rfl) tA_8 (Nat.le_of_ble_eq_true rfl) (Nat.le_of_ble_eq_true rfl) (Nat.le_refl _) (Nat.le_refl _) (s_X5_level hc (fun hn => absurd hc0 hn) (fun _ _ M1 c1 f1 => (wp_af ?_)) (fun hn => absurd hn hv))
      have hM1 := hM.fc f1
      have hs1 : M1 236 = M 236 := (f1 236 (by omega)).1
      have hrc1 : M1 235 3 = nI rc := by rw [(f1 235 (by omega)).1]; exact hrc
      have hpl1 : M1 235 7 = nI pl := by rw [(f1 235 (by omega)).1]; exact hpl
      refine wp_aload_n dL_law_319 rfl ?_
      refine wp_aload_n dL_law_320 rfl ?_
      refine wp_iload_n dL_law_321 rfl ?_
      refine wp_iconst (v := 1) dL_law_322 (by decide) ?_
      refine wp_iadd dL_law_323 ?_
      refine wp_sld (i := (k + 1)) (ix_add rfl rfl) (by omega) (by omega) dL_law_324 ?_
      refine wp_aload_n dL_law_325 rfl ?_
      refine wp_iload_n dL_law_326 rfl ?_
      refine wp_iconst (v := 2) dL_law_327 (by decide) ?_
      refine wp_iadd dL_law_328 ?_
      refine wp_sld (i := (k + 2)) (ix_add rfl rfl) (by omega) (by omega) dL_law_329 ?_
      refine wp_cV2 (z := mX6_level) (n' := 243) kL_39 dL_law_330 (Nat.le_of_ble_eq_true rfl) (Nat.le_of_ble_eq_true rfl) tA_235 (Nat.le_of_ble_eq_true rfl) (Nat.le_of_ble_eq_true rfl) (Nat.le_refl _) (Nat.le_refl _) (s_X6_level hs1 hM1 hrc1 h6 (fun hn => absurd hc0 hn) (fun _ _ => (wp_af ?_)) (fun hn => absurd hn hv))
      refine wp_icmp_eq (tgt := 790) dL_law_333 (by decide) (fun hcm => ?_) (fun hcm => absurd rfl hcm)
      exact hK _ _ (Inv.kp hM hrc hpl f1 c1 (VM.rf _))
  · have hno : ∀ i, i < 40 → (γ.2.2.2.2.2 (k + 1)) = nI i → False := fun i hi ei => hc0 (by rw [ei]; exact ⟨nI_pos' (by omega), (nI_leI (by omega) (by decide)).mpr (show i ≤ 39 by omega)⟩)
    refine wp_aload_n dL_law_305 rfl ?_
    refine wp_aload_n dL_law_306 rfl ?_
    refine wp_iload_n dL_law_307 rfl ?_
    refine wp_iconst (v := 1) dL_law_308 (by decide) ?_
    refine wp_iadd dL_law_309 ?_
    refine wp_sld (i := (k + 1)) (ix_add rfl rfl) (by omega) (by omega) dL_law_310 ?_
    refine wp_aload_n dL_law_311 rfl ?_
    refine wp_iload_n dL_law_312 rfl ?_
    refine wp_iconst (v := 2) dL_law_313 (by decide) ?_
    refine wp_iadd dL_law_314 ?_
    refine wp_sld (i := (k + 2)) (ix_add rfl rfl) (by omega) (by omega) dL_law_315 ?_
    refine wp_cV2 (z := mX5_level) (n' := 243) kL_36 dL_law_316 (Nat.le_of_ble_eq_true rfl) (Nat.le_of_ble_eq_true rfl) tA_8 (Nat.le_of_ble_eq_true rfl) (Nat.le_of_ble_eq_true rfl) (Nat.le_refl _) (Nat.le_refl _) (s_X5_level hc (fun _ M1 c1 f1 => (wp_af ?_)) (fun hn => absurd hn hc0) (fun _ i hi ei => (hno i hi ei).elim))
    have hM1 := hM.fc f1
    have hs1 : M1 236 = M 236 := (f1 236 (by omega)).1
    have hrc1 : M1 235 3 = nI rc := by rw [(f1 235 (by omega)).1]; exact hrc
    have hpl1 : M1 235 7 = nI pl := by rw [(f1 235 (by omega)).1]; exact hpl
    refine wp_aload_n dL_law_319 rfl ?_
    refine wp_aload_n dL_law_320 rfl ?_
    refine wp_iload_n dL_law_321 rfl ?_
    refine wp_iconst (v := 1) dL_law_322 (by decide) ?_
    refine wp_iadd dL_law_323 ?_
    refine wp_sld (i := (k + 1)) (ix_add rfl rfl) (by omega) (by omega) dL_law_324 ?_
    refine wp_aload_n dL_law_325 rfl ?_
    refine wp_iload_n dL_law_326 rfl ?_
    refine wp_iconst (v := 2) dL_law_327 (by decide) ?_
    refine wp_iadd dL_law_328 ?_
    refine wp_sld (i := (k + 2)) (ix_add rfl rfl) (by omega) (by omega) dL_law_329 ?_
    refine wp_cV2 (z := mX6_level) (n' := 243) kL_39 dL_law_330 (Nat.le_of_ble_eq_true rfl) (Nat.le_of_ble_eq_true rfl) tA_235 (Nat.le_of_ble_eq_true rfl) (Nat.le_of_ble_eq_true rfl) (Nat.le_refl _) (Nat.le_refl _) (s_X6_level hs1 hM1 hrc1 h6 (fun _ => (wp_af ?_)) (fun hn => absurd hn hc0) (fun _ i hi ei => (hno i hi ei).elim))
    refine wp_icmp_eq (tgt := 790) dL_law_333 (by decide) (fun hcm => ?_) (fun hcm => absurd rfl hcm)
    exact hK _ _ (Inv.kp hM hrc hpl f1 c1 (VM.rf _))

set_option maxRecDepth 100000 in
set_option maxHeartbeats 4000000 in
theorem lc_6 {γ : Gm} {l : Launch} {M : Mm} {R : Rm} {K : KT} {k : Nat} (hk : k + 6 ≤ γ.2.2.2.2.1) (hL : γ.2.2.2.2.1 ≤ 3072) (hI : Inv M R) (hK : ∀ M3 R1, Inv M3 R1 → WP γ l mL_law 8 8 243 790 [some (.ref 4), some (.ref 8), some (.ref 235), some (.int (nI k))] [] 243 M3 R1 K) : WP γ l mL_law 8 8 243 338 [some (.ref 4), some (.ref 8), some (.ref 235), some (.int (nI k))] [] 243 M R K := by
  obtain ⟨rc, pl, hrc, hpl, hM, hc⟩ := hI
  have h6 := hc.ib.h6
  have hn4 := hc.ok.n4
  have hn5 := hc.ok.n5
  have hp6 := hc.ok.p6
  have hg4 := hc.ok.g4
  by_cases hw : whyN (M 236) (γ.2.2.2.2.2 (k + 1)) < 0
  · refine wp_aload_n dL_law_338 rfl ?_
    refine wp_aload_n dL_law_339 rfl ?_
    refine wp_iload_n dL_law_340 rfl ?_
    refine wp_iconst (v := 1) dL_law_341 (by decide) ?_
    refine wp_iadd dL_law_342 ?_
    refine wp_sld (i := (k + 1)) (ix_add rfl rfl) (by omega) (by omega) dL_law_343 ?_
    refine wp_cV1 (z := mX5_pass) (n' := 243) kL_40 dL_law_344 (Nat.le_of_ble_eq_true rfl) (Nat.le_of_ble_eq_true rfl) tA_8 (Nat.le_of_ble_eq_true rfl) (Nat.le_of_ble_eq_true rfl) (Nat.le_refl _) (Nat.le_refl _) (s_X5_pass hc (fun _ M1 c1 f1 => (wp_af ?_)) (fun hn => absurd hw hn))
    have hM1 := hM.fc f1
    have hs1 : M1 236 = M 236 := (f1 236 (by omega)).1
    have hrc1 : M1 235 3 = nI rc := by rw [(f1 235 (by omega)).1]; exact hrc
    have hpl1 : M1 235 7 = nI pl := by rw [(f1 235 (by omega)).1]; exact hpl
    refine wp_aload_n dL_law_347 rfl ?_
    refine wp_aload_n dL_law_348 rfl ?_
    refine wp_iload_n dL_law_349 rfl ?_
    refine wp_iconst (v := 1) dL_law_350 (by decide) ?_
    refine wp_iadd dL_law_351 ?_
    refine wp_sld (i := (k + 1)) (ix_add rfl rfl) (by omega) (by omega) dL_law_352 ?_
    refine wp_cV1 (z := mX6_pass) (n' := 243) kL_43 dL_law_353 (Nat.le_of_ble_eq_true rfl) (Nat.le_of_ble_eq_true rfl) tA_235 (Nat.le_of_ble_eq_true rfl) (Nat.le_of_ble_eq_true rfl) (Nat.le_refl _) (Nat.le_refl _) (s_X6_pass hs1 hM1 hrc1 h6 hc.ok.1 (fun _ => (wp_af ?_)) (fun hn => absurd hw hn))
    refine wp_icmp_eq (tgt := 790) dL_law_356 (by decide) (fun hcm => ?_) (fun hcm => absurd rfl hcm)
    exact hK _ _ (Inv.kp hM hrc hpl f1 c1 (VM.rf _))
  · refine wp_aload_n dL_law_338 rfl ?_
    refine wp_aload_n dL_law_339 rfl ?_
    refine wp_iload_n dL_law_340 rfl ?_
    refine wp_iconst (v := 1) dL_law_341 (by decide) ?_
    refine wp_iadd dL_law_342 ?_
    refine wp_sld (i := (k + 1)) (ix_add rfl rfl) (by omega) (by omega) dL_law_343 ?_
    refine wp_cV1 (z := mX5_pass) (n' := 243) kL_40 dL_law_344 (Nat.le_of_ble_eq_true rfl) (Nat.le_of_ble_eq_true rfl) tA_8 (Nat.le_of_ble_eq_true rfl) (Nat.le_of_ble_eq_true rfl) (Nat.le_refl _) (Nat.le_refl _) (s_X5_pass hc (fun hn => absurd hn hw) (fun _ i hi1 hi2 ei M1 R1 c1 f1 => (wp_af ?_)))
    have hM1 := hM.fc f1
    have hs1 : M1 236 = M 236 := (f1 236 (by omega)).1
    have hrc1 : M1 235 3 = nI rc := by rw [(f1 235 (by omega)).1]; exact hrc
    have hpl1 : M1 235 7 = nI pl := by rw [(f1 235 (by omega)).1]; exact hpl
    refine wp_aload_n dL_law_347 rfl ?_
    refine wp_aload_n dL_law_348 rfl ?_
    refine wp_iload_n dL_law_349 rfl ?_
    refine wp_iconst (v := 1) dL_law_350 (by decide) ?_
    refine wp_iadd dL_law_351 ?_
    refine wp_sld (i := (k + 1)) (ix_add rfl rfl) (by omega) (by omega) dL_law_352 ?_
    refine wp_cV1 (z := mX6_pass) (n' := 243) kL_43 dL_law_353 (Nat.le_of_ble_eq_true rfl) (Nat.le_of_ble_eq_true rfl) tA_235 (Nat.le_of_ble_eq_true rfl) (Nat.le_of_ble_eq_true rfl) (Nat.le_refl _) (Nat.le_refl _) (s_X6_pass hs1 hM1 hrc1 h6 hc.ok.1 (fun hn => absurd hn hw) (fun _ j hj1 hj2 ej M2 hp => (wp_af ?_)))
    obtain rfl := (nI_eq (by omega) (by omega)).mp (ei.symm.trans ej)
    refine wp_icmp_eq (tgt := 790) dL_law_356 (by decide) (fun hcm => ?_) (fun hcm => absurd rfl hcm)
    exact hK _ _ (Inv.rec hM h6 hpl f1 c1 hp _ (fun _ _ => rfl))

set_option maxRecDepth 100000 in
set_option maxHeartbeats 4000000 in
theorem lc_7 {γ : Gm} {l : Launch} {M : Mm} {R : Rm} {K : KT} {k : Nat} (hk : k + 6 ≤ γ.2.2.2.2.1) (hL : γ.2.2.2.2.1 ≤ 3072) (hI : Inv M R) (hK : ∀ M3 R1, Inv M3 R1 → WP γ l mL_law 8 8 243 790 [some (.ref 4), some (.ref 8), some (.ref 235), some (.int (nI k))] [] 243 M3 R1 K) : WP γ l mL_law 8 8 243 361 [some (.ref 4), some (.ref 8), some (.ref 235), some (.int (nI k))] [] 243 M R K := by
  obtain ⟨rc, pl, hrc, hpl, hM, hc⟩ := hI
  have h6 := hc.ib.h6
  have hn4 := hc.ok.n4
  have hn5 := hc.ok.n5
  have hp6 := hc.ok.p6
  have hg4 := hc.ok.g4
  by_cases hc0 : 0 ≤ (γ.2.2.2.2.2 (k + 1)) ∧ (γ.2.2.2.2.2 (k + 1)) ≤ 39
  · refine wp_aload_n dL_law_361 rfl ?_
    refine wp_aload_n dL_law_362 rfl ?_
    refine wp_iload_n dL_law_363 rfl ?_
    refine wp_iconst (v := 1) dL_law_364 (by decide) ?_
    refine wp_iadd dL_law_365 ?_
    refine wp_sld (i := (k + 1)) (ix_add rfl rfl) (by omega) (by omega) dL_law_366 ?_
    refine wp_aload_n dL_law_367 rfl ?_
    refine wp_iload_n dL_law_368 rfl ?_
    refine wp_iconst (v := 2) dL_law_369 (by decide) ?_
    refine wp_iadd dL_law_370 ?_
    refine wp_sld (i := (k + 2)) (ix_add rfl rfl) (by omega) (by omega) dL_law_371 ?_
    refine wp_cV2 (z := mX5_cell) (n' := 243) kL_44 dL_law_372 (Nat.le_of_ble_eq_true rfl) (Nat.le_of_ble_eq_true rfl) tA_8 (Nat.le_of_ble_eq_true rfl) (Nat.le_of_ble_eq_true rfl) (Nat.le_refl _) (Nat.le_refl _) (s_X5_cell hc (fun hn => absurd hc0 hn) (fun i hi ei => (wp_af ?_)))
    refine wp_aload_n dL_law_375 rfl ?_
    refine wp_aload_n dL_law_376 rfl ?_
    refine wp_iload_n dL_law_377 rfl ?_
    refine wp_iconst (v := 1) dL_law_378 (by decide) ?_
    refine wp_iadd dL_law_379 ?_
    refine wp_sld (i := (k + 1)) (ix_add rfl rfl) (by omega) (by omega) dL_law_380 ?_
    refine wp_aload_n dL_law_381 rfl ?_
    refine wp_iload_n dL_law_382 rfl ?_
    refine wp_iconst (v := 2) dL_law_383 (by decide) ?_
    refine wp_iadd dL_law_384 ?_
    refine wp_sld (i := (k + 2)) (ix_add rfl rfl) (by omega) (by omega) dL_law_385 ?_
    refine wp_cV2 (z := mX6_cell) (n' := 243) kL_47 dL_law_386 (Nat.le_of_ble_eq_true rfl) (Nat.le_of_ble_eq_true rfl) tA_235 (Nat.le_of_ble_eq_true rfl) (Nat.le_of_ble_eq_true rfl) (Nat.le_refl _) (Nat.le_refl _) (s_X6_cell rfl hM (fun hn => absurd hc0 hn) (fun j hj ej => (wp_af ?_)))
    obtain rfl := (nI_eq (by omega) (by omega)).mp (ei.symm.trans ej)
    refine wp_icmp_eq (tgt := 790) dL_law_389 (by decide) (fun hcm => ?_) (fun hcm => absurd rfl hcm)
    exact hK _ _ (Inv.kp hM hrc hpl (FC.rf M R) hc (VM.rf _))
  · have hno : ∀ i, i < 40 → (γ.2.2.2.2.2 (k + 1)) = nI i → False := fun i hi ei => hc0 (by rw [ei]; exact ⟨nI_pos' (by omega), (nI_leI (by omega) (by decide)).mpr (show i ≤ 39 by omega)⟩)
    refine wp_aload_n dL_law_361 rfl ?_
    refine wp_aload_n dL_law_362 rfl ?_
    refine wp_iload_n dL_law_363 rfl ?_
    refine wp_iconst (v := 1) dL_law_364 (by decide) ?_
    refine wp_iadd dL_law_365 ?_
    refine wp_sld (i := (k + 1)) (ix_add rfl rfl) (by omega) (by omega) dL_law_366 ?_
    refine wp_aload_n dL_law_367 rfl ?_
    refine wp_iload_n dL_law_368 rfl ?_
    refine wp_iconst (v := 2) dL_law_369 (by decide) ?_
    refine wp_iadd dL_law_370 ?_
    refine wp_sld (i := (k + 2)) (ix_add rfl rfl) (by omega) (by omega) dL_law_371 ?_
    refine wp_cV2 (z := mX5_cell) (n' := 243) kL_44 dL_law_372 (Nat.le_of_ble_eq_true rfl) (Nat.le_of_ble_eq_true rfl) tA_8 (Nat.le_of_ble_eq_true rfl) (Nat.le_of_ble_eq_true rfl) (Nat.le_refl _) (Nat.le_refl _) (s_X5_cell hc (fun _ => (wp_af ?_)) (fun i hi ei => (hno i hi ei).elim))
    refine wp_aload_n dL_law_375 rfl ?_
    refine wp_aload_n dL_law_376 rfl ?_
    refine wp_iload_n dL_law_377 rfl ?_
    refine wp_iconst (v := 1) dL_law_378 (by decide) ?_
    refine wp_iadd dL_law_379 ?_
    refine wp_sld (i := (k + 1)) (ix_add rfl rfl) (by omega) (by omega) dL_law_380 ?_
    refine wp_aload_n dL_law_381 rfl ?_
    refine wp_iload_n dL_law_382 rfl ?_
    refine wp_iconst (v := 2) dL_law_383 (by decide) ?_
    refine wp_iadd dL_law_384 ?_
    refine wp_sld (i := (k + 2)) (ix_add rfl rfl) (by omega) (by omega) dL_law_385 ?_
    refine wp_cV2 (z := mX6_cell) (n' := 243) kL_47 dL_law_386 (Nat.le_of_ble_eq_true rfl) (Nat.le_of_ble_eq_true rfl) tA_235 (Nat.le_of_ble_eq_true rfl) (Nat.le_of_ble_eq_true rfl) (Nat.le_refl _) (Nat.le_refl _) (s_X6_cell rfl hM (fun _ => (wp_af ?_)) (fun i hi ei => (hno i hi ei).elim))
    refine wp_icmp_eq (tgt := 790) dL_law_389 (by decide) (fun hcm => ?_) (fun hcm => absurd rfl hcm)
    exact hK _ _ (Inv.kp hM hrc hpl (FC.rf M R) hc (VM.rf _))

set_option maxRecDepth 100000 in
set_option maxHeartbeats 4000000 in
theorem lc_8 {γ : Gm} {l : Launch} {M : Mm} {R : Rm} {K : KT} {k : Nat} (hk : k + 6 ≤ γ.2.2.2.2.1) (hL : γ.2.2.2.2.1 ≤ 3072) (hI : Inv M R) (hK : ∀ M3 R1, Inv M3 R1 → WP γ l mL_law 8 8 243 790 [some (.ref 4), some (.ref 8), some (.ref 235), some (.int (nI k))] [] 243 M3 R1 K) : WP γ l mL_law 8 8 243 394 [some (.ref 4), some (.ref 8), some (.ref 235), some (.int (nI k))] [] 243 M R K := by
  obtain ⟨rc, pl, hrc, hpl, hM, hc⟩ := hI
  have h6 := hc.ib.h6
  have hn4 := hc.ok.n4
  have hn5 := hc.ok.n5
  have hp6 := hc.ok.p6
  have hg4 := hc.ok.g4
  by_cases hc0 : 0 ≤ (γ.2.2.2.2.2 (k + 1)) ∧ (γ.2.2.2.2.2 (k + 1)) < nI (nP (M 236))
  · refine wp_aload_n dL_law_394 rfl ?_
    refine wp_aload_n dL_law_395 rfl ?_
    refine wp_iload_n dL_law_396 rfl ?_
    refine wp_iconst (v := 1) dL_law_397 (by decide) ?_
    refine wp_iadd dL_law_398 ?_
    refine wp_sld (i := (k + 1)) (ix_add rfl rfl) (by omega) (by omega) dL_law_399 ?_
    refine wp_aload_n dL_law_400 rfl ?_
    refine wp_iload_n dL_law_401 rfl ?_
    refine wp_iconst (v := 2) dL_law_402 (by decide) ?_
    refine wp_iadd dL_law_403 ?_
    refine wp_sld (i := (k + 2)) (ix_add rfl rfl) (by omega) (by omega) dL_law_404 ?_
    refine wp_cV2 (z := mX5_ofPaddle) (n' := 243) kL_48 dL_law_405 (Nat.le_of_ble_eq_true rfl) (Nat.le_of_ble_eq_true rfl) tA_8 (Nat.le_of_ble_eq_true rfl) (Nat.le_of_ble_eq_true rfl) (Nat.le_refl _) (Nat.le_refl _) (s_X5_ofPaddle hc (fun hn => absurd hc0 hn) (fun i hi ei => (wp_af ?_)))
    refine wp_aload_n dL_law_408 rfl ?_
    refine wp_aload_n dL_law_409 rfl ?_
    refine wp_iload_n dL_law_410 rfl ?_
    refine wp_iconst (v := 1) dL_law_411 (by decide) ?_
    refine wp_iadd dL_law_412 ?_
    refine wp_sld (i := (k + 1)) (ix_add rfl rfl) (by omega) (by omega) dL_law_413 ?_
    refine wp_aload_n dL_law_414 rfl ?_
    refine wp_iload_n dL_law_415 rfl ?_
    refine wp_iconst (v := 2) dL_law_416 (by decide) ?_
    refine wp_iadd dL_law_417 ?_
    refine wp_sld (i := (k + 2)) (ix_add rfl rfl) (by omega) (by omega) dL_law_418 ?_
    refine wp_cV2 (z := mX6_ofPaddle) (n' := 243) kL_51 dL_law_419 (Nat.le_of_ble_eq_true rfl) (Nat.le_of_ble_eq_true rfl) tA_235 (Nat.le_of_ble_eq_true rfl) (Nat.le_of_ble_eq_true rfl) (Nat.le_refl _) (Nat.le_refl _) (s_X6_ofPaddle rfl hM hn4 hp6 hc.ok.1.pds (fun hn => absurd hc0 hn) (fun j hj ej => (wp_af ?_)))
    obtain rfl := (nI_eq (by omega) (by omega)).mp (ei.symm.trans ej)
    refine wp_icmp_eq (tgt := 790) dL_law_422 (by decide) (fun hcm => ?_) (fun hcm => absurd rfl hcm)
    exact hK _ _ (Inv.kp hM hrc hpl (FC.rf M R) hc (VM.rf _))
  · have hno : ∀ i, i < (nP (M 236)) → (γ.2.2.2.2.2 (k + 1)) = nI i → False := fun i hi ei => hc0 (by rw [ei]; exact ⟨nI_pos' (by omega), (nI_ltI (by omega) (by omega)).mpr hi⟩)
    refine wp_aload_n dL_law_394 rfl ?_
    refine wp_aload_n dL_law_395 rfl ?_
    refine wp_iload_n dL_law_396 rfl ?_
    refine wp_iconst (v := 1) dL_law_397 (by decide) ?_
    refine wp_iadd dL_law_398 ?_
    refine wp_sld (i := (k + 1)) (ix_add rfl rfl) (by omega) (by omega) dL_law_399 ?_
    refine wp_aload_n dL_law_400 rfl ?_
    refine wp_iload_n dL_law_401 rfl ?_
    refine wp_iconst (v := 2) dL_law_402 (by decide) ?_
    refine wp_iadd dL_law_403 ?_
    refine wp_sld (i := (k + 2)) (ix_add rfl rfl) (by omega) (by omega) dL_law_404 ?_
    refine wp_cV2 (z := mX5_ofPaddle) (n' := 243) kL_48 dL_law_405 (Nat.le_of_ble_eq_true rfl) (Nat.le_of_ble_eq_true rfl) tA_8 (Nat.le_of_ble_eq_true rfl) (Nat.le_of_ble_eq_true rfl) (Nat.le_refl _) (Nat.le_refl _) (s_X5_ofPaddle hc (fun _ => (wp_af ?_)) (fun i hi ei => (hno i hi ei).elim))
    refine wp_aload_n dL_law_408 rfl ?_
    refine wp_aload_n dL_law_409 rfl ?_
    refine wp_iload_n dL_law_410 rfl ?_
    refine wp_iconst (v := 1) dL_law_411 (by decide) ?_
    refine wp_iadd dL_law_412 ?_
    refine wp_sld (i := (k + 1)) (ix_add rfl rfl) (by omega) (by omega) dL_law_413 ?_
    refine wp_aload_n dL_law_414 rfl ?_
    refine wp_iload_n dL_law_415 rfl ?_
    refine wp_iconst (v := 2) dL_law_416 (by decide) ?_
    refine wp_iadd dL_law_417 ?_
    refine wp_sld (i := (k + 2)) (ix_add rfl rfl) (by omega) (by omega) dL_law_418 ?_
    refine wp_cV2 (z := mX6_ofPaddle) (n' := 243) kL_51 dL_law_419 (Nat.le_of_ble_eq_true rfl) (Nat.le_of_ble_eq_true rfl) tA_235 (Nat.le_of_ble_eq_true rfl) (Nat.le_of_ble_eq_true rfl) (Nat.le_refl _) (Nat.le_refl _) (s_X6_ofPaddle rfl hM hn4 hp6 hc.ok.1.pds (fun _ => (wp_af ?_)) (fun i hi ei => (hno i hi ei).elim))
    refine wp_icmp_eq (tgt := 790) dL_law_422 (by decide) (fun hcm => ?_) (fun hcm => absurd rfl hcm)
    exact hK _ _ (Inv.kp hM hrc hpl (FC.rf M R) hc (VM.rf _))

set_option maxRecDepth 100000 in
set_option maxHeartbeats 4000000 in
theorem lc_9 {γ : Gm} {l : Launch} {M : Mm} {R : Rm} {K : KT} {k : Nat} (hk : k + 6 ≤ γ.2.2.2.2.1) (hL : γ.2.2.2.2.1 ≤ 3072) (hI : Inv M R) (hK : ∀ M3 R1, Inv M3 R1 → WP γ l mL_law 8 8 243 790 [some (.ref 4), some (.ref 8), some (.ref 235), some (.int (nI k))] [] 243 M3 R1 K) : WP γ l mL_law 8 8 243 427 [some (.ref 4), some (.ref 8), some (.ref 235), some (.int (nI k))] [] 243 M R K := by
  obtain ⟨rc, pl, hrc, hpl, hM, hc⟩ := hI
  have h6 := hc.ib.h6
  have hn4 := hc.ok.n4
  have hn5 := hc.ok.n5
  have hp6 := hc.ok.p6
  have hg4 := hc.ok.g4
  by_cases hc0 : 0 ≤ (γ.2.2.2.2.2 (k + 1)) ∧ (γ.2.2.2.2.2 (k + 1)) < nI (nG (M 236))
  · refine wp_aload_n dL_law_427 rfl ?_
    refine wp_aload_n dL_law_428 rfl ?_
    refine wp_iload_n dL_law_429 rfl ?_
    refine wp_iconst (v := 1) dL_law_430 (by decide) ?_
    refine wp_iadd dL_law_431 ?_
    refine wp_sld (i := (k + 1)) (ix_add rfl rfl) (by omega) (by omega) dL_law_432 ?_
    refine wp_aload_n dL_law_433 rfl ?_
    refine wp_iload_n dL_law_434 rfl ?_
    refine wp_iconst (v := 2) dL_law_435 (by decide) ?_
    refine wp_iadd dL_law_436 ?_
    refine wp_sld (i := (k + 2)) (ix_add rfl rfl) (by omega) (by omega) dL_law_437 ?_
    refine wp_cV2 (z := mX5_ofGauge) (n' := 243) kL_52 dL_law_438 (Nat.le_of_ble_eq_true rfl) (Nat.le_of_ble_eq_true rfl) tA_8 (Nat.le_of_ble_eq_true rfl) (Nat.le_of_ble_eq_true rfl) (Nat.le_refl _) (Nat.le_refl _) (s_X5_ofGauge hc (fun hn => absurd hc0 hn) (fun i m hi hm ei em => (wp_af ?_)))
    refine wp_aload_n dL_law_441 rfl ?_
    refine wp_aload_n dL_law_442 rfl ?_
    refine wp_iload_n dL_law_443 rfl ?_
    refine wp_iconst (v := 1) dL_law_444 (by decide) ?_
    refine wp_iadd dL_law_445 ?_
    refine wp_sld (i := (k + 1)) (ix_add rfl rfl) (by omega) (by omega) dL_law_446 ?_
    refine wp_aload_n dL_law_447 rfl ?_
    refine wp_iload_n dL_law_448 rfl ?_
    refine wp_iconst (v := 2) dL_law_449 (by decide) ?_
    refine wp_iadd dL_law_450 ?_
    refine wp_sld (i := (k + 2)) (ix_add rfl rfl) (by omega) (by omega) dL_law_451 ?_
    refine wp_cV2 (z := mX6_ofGauge) (n' := 243) kL_55 dL_law_452 (Nat.le_of_ble_eq_true rfl) (Nat.le_of_ble_eq_true rfl) tA_235 (Nat.le_of_ble_eq_true rfl) (Nat.le_of_ble_eq_true rfl) (Nat.le_refl _) (Nat.le_refl _) (s_X6_ofGauge rfl hM hn5 hg4 hc.ok.1.ggs (fun hn => absurd hc0 hn) (fun j m2 hj hm2 ej en => (wp_af ?_)))
    obtain rfl := (nI_eq (by omega) (by omega)).mp (ei.symm.trans ej)
    obtain rfl := (nI_eq (by omega) (by omega)).mp (em.symm.trans en)
    refine wp_icmp_eq (tgt := 790) dL_law_455 (by decide) (fun hcm => ?_) (fun hcm => absurd rfl hcm)
    exact hK _ _ (Inv.kp hM hrc hpl (FC.rf M R) hc (VM.rf _))
  · have hno : ∀ i, i < (nG (M 236)) → (γ.2.2.2.2.2 (k + 1)) = nI i → False := fun i hi ei => hc0 (by rw [ei]; exact ⟨nI_pos' (by omega), (nI_ltI (by omega) (by omega)).mpr hi⟩)
    refine wp_aload_n dL_law_427 rfl ?_
    refine wp_aload_n dL_law_428 rfl ?_
    refine wp_iload_n dL_law_429 rfl ?_
    refine wp_iconst (v := 1) dL_law_430 (by decide) ?_
    refine wp_iadd dL_law_431 ?_
    refine wp_sld (i := (k + 1)) (ix_add rfl rfl) (by omega) (by omega) dL_law_432 ?_
    refine wp_aload_n dL_law_433 rfl ?_
    refine wp_iload_n dL_law_434 rfl ?_
    refine wp_iconst (v := 2) dL_law_435 (by decide) ?_
    refine wp_iadd dL_law_436 ?_
    refine wp_sld (i := (k + 2)) (ix_add rfl rfl) (by omega) (by omega) dL_law_437 ?_
    refine wp_cV2 (z := mX5_ofGauge) (n' := 243) kL_52 dL_law_438 (Nat.le_of_ble_eq_true rfl) (Nat.le_of_ble_eq_true rfl) tA_8 (Nat.le_of_ble_eq_true rfl) (Nat.le_of_ble_eq_true rfl) (Nat.le_refl _) (Nat.le_refl _) (s_X5_ofGauge hc (fun _ => (wp_af ?_)) (fun i m hi hm ei em => (hno i hi ei).elim))
    refine wp_aload_n dL_law_441 rfl ?_
    refine wp_aload_n dL_law_442 rfl ?_
    refine wp_iload_n dL_law_443 rfl ?_
    refine wp_iconst (v := 1) dL_law_444 (by decide) ?_
    refine wp_iadd dL_law_445 ?_
    refine wp_sld (i := (k + 1)) (ix_add rfl rfl) (by omega) (by omega) dL_law_446 ?_
    refine wp_aload_n dL_law_447 rfl ?_
    refine wp_iload_n dL_law_448 rfl ?_
    refine wp_iconst (v := 2) dL_law_449 (by decide) ?_
    refine wp_iadd dL_law_450 ?_
    refine wp_sld (i := (k + 2)) (ix_add rfl rfl) (by omega) (by omega) dL_law_451 ?_
    refine wp_cV2 (z := mX6_ofGauge) (n' := 243) kL_55 dL_law_452 (Nat.le_of_ble_eq_true rfl) (Nat.le_of_ble_eq_true rfl) tA_235 (Nat.le_of_ble_eq_true rfl) (Nat.le_of_ble_eq_true rfl) (Nat.le_refl _) (Nat.le_refl _) (s_X6_ofGauge rfl hM hn5 hg4 hc.ok.1.ggs (fun _ => (wp_af ?_)) (fun i m hi hm ei em => (hno i hi ei).elim))
    refine wp_icmp_eq (tgt := 790) dL_law_455 (by decide) (fun hcm => ?_) (fun hcm => absurd rfl hcm)
    exact hK _ _ (Inv.kp hM hrc hpl (FC.rf M R) hc (VM.rf _))

set_option maxRecDepth 100000 in
set_option maxHeartbeats 4000000 in
theorem lc_10 {γ : Gm} {l : Launch} {M : Mm} {R : Rm} {K : KT} {k : Nat} (hk : k + 6 ≤ γ.2.2.2.2.1) (hL : γ.2.2.2.2.1 ≤ 3072) (hI : Inv M R) (hK : ∀ M3 R1, Inv M3 R1 → WP γ l mL_law 8 8 243 790 [some (.ref 4), some (.ref 8), some (.ref 235), some (.int (nI k))] [] 243 M3 R1 K) : WP γ l mL_law 8 8 243 460 [some (.ref 4), some (.ref 8), some (.ref 235), some (.int (nI k))] [] 243 M R K := by
  obtain ⟨rc, pl, hrc, hpl, hM, hc⟩ := hI
  have h6 := hc.ib.h6
  have hn4 := hc.ok.n4
  have hn5 := hc.ok.n5
  have hp6 := hc.ok.p6
  have hg4 := hc.ok.g4
  by_cases hc0 : 0 ≤ (γ.2.2.2.2.2 (k + 1)) ∧ (γ.2.2.2.2.2 (k + 1)) < nI (nG (M 236))
  · obtain ⟨g, hg, eg⟩ := rank_in (by omega) hc0
    obtain ⟨-, mm, hmm, emm⟩ := hc.ok.1.ggs g hg
    by_cases hw : 0 ≤ (γ.2.2.2.2.2 (k + 2)) ∧ (γ.2.2.2.2.2 (k + 2)) < nI mm
    · refine wp_aload_n dL_law_460 rfl ?_
      refine wp_aload_n dL_law_461 rfl ?_
      refine wp_iload_n dL_law_462 rfl ?_
      refine wp_iconst (v := 1) dL_law_463 (by decide) ?_
      refine wp_iadd dL_law_464 ?_
      refine wp_sld (i := (k + 1)) (ix_add rfl rfl) (by omega) (by omega) dL_law_465 ?_
      refine wp_aload_n dL_law_466 rfl ?_
      refine wp_iload_n dL_law_467 rfl ?_
      refine wp_iconst (v := 2) dL_law_468 (by decide) ?_
      refine wp_iadd dL_law_469 ?_
      refine wp_sld (i := (k + 2)) (ix_add rfl rfl) (by omega) (by omega) dL_law_470 ?_
      refine wp_cV2 (z := mX5_noted) (n' := 243) kL_56 dL_law_471 (Nat.le_of_ble_eq_true rfl) (Nat.le_of_ble_eq_true rfl) tA_8 (Nat.le_of_ble_eq_true rfl) (Nat.le_of_ble_eq_true rfl) (Nat.le_refl _) (Nat.le_refl _) (s_X5_noted hc (fun hn => absurd hc0 hn) (fun i m hi hm ei em hn => absurd hw (by obtain rfl := (nI_eq (by omega) (by omega)).mp (ei.symm.trans eg); obtain rfl := (nI_eq (by omega) (by omega)).mp (em.symm.trans emm); exact hn)) (fun i m w hi hm ei em hw1 ew => (wp_af ?_)))
      refine wp_aload_n dL_law_474 rfl ?_
      refine wp_aload_n dL_law_475 rfl ?_
      refine wp_iload_n dL_law_476 rfl ?_
      refine wp_iconst (v := 1) dL_law_477 (by decide) ?_
      refine wp_iadd dL_law_478 ?_
      refine wp_sld (i := (k + 1)) (ix_add rfl rfl) (by omega) (by omega) dL_law_479 ?_
      refine wp_aload_n dL_law_480 rfl ?_
      refine wp_iload_n dL_law_481 rfl ?_
      refine wp_iconst (v := 2) dL_law_482 (by decide) ?_
      refine wp_iadd dL_law_483 ?_
      refine wp_sld (i := (k + 2)) (ix_add rfl rfl) (by omega) (by omega) dL_law_484 ?_
      refine wp_cV2 (z := mX6_noted) (n' := 243) kL_59 dL_law_485 (Nat.le_of_ble_eq_true rfl) (Nat.le_of_ble_eq_true rfl) tA_235 (Nat.le_of_ble_eq_true rfl) (Nat.le_of_ble_eq_true rfl) (Nat.le_refl _) (Nat.le_refl _) (s_X6_noted rfl hM hn5 hg4 hc.ok.1.ggs (fun hn => absurd hc0 hn) (fun i m hi hm ei em hn => absurd hw (by obtain rfl := (nI_eq (by omega) (by omega)).mp (ei.symm.trans eg); obtain rfl := (nI_eq (by omega) (by omega)).mp (em.symm.trans emm); exact hn)) (fun j m2 v hj hm2 ej en hv1 ev => (wp_af ?_)))
      obtain rfl := (nI_eq (by omega) (by omega)).mp (ei.symm.trans ej)
      obtain rfl := (nI_eq (by omega) (by omega)).mp (em.symm.trans en)
      obtain rfl := (nI_eq (by omega) (by omega)).mp (ew.symm.trans ev)
      refine wp_icmp_eq (tgt := 790) dL_law_488 (by decide) (fun hcm => ?_) (fun hcm => absurd rfl hcm)
      exact hK _ _ (Inv.kp hM hrc hpl (FC.rf M R) hc (VM.rf _))
    · have hno : ∀ i m w, i < (nG (M 236)) → m ≤ 60 → (γ.2.2.2.2.2 (k + 1)) = nI i → M 236 (122 + 62 * i + 1) = nI m → w < m → (γ.2.2.2.2.2 (k + 2)) = nI w → False := fun i m w hi hm ei em hw1 ew => hw (by obtain rfl := (nI_eq (by omega) (by omega)).mp (ei.symm.trans eg); obtain rfl := (nI_eq (by omega) (by omega)).mp (em.symm.trans emm); rw [ew]; exact ⟨nI_pos' (by omega), (nI_ltI (by omega) (by omega)).mpr hw1⟩)
      refine wp_aload_n dL_law_460 rfl ?_
      refine wp_aload_n dL_law_461 rfl ?_
      refine wp_iload_n dL_law_462 rfl ?_
      refine wp_iconst (v := 1) dL_law_463 (by decide) ?_
      refine wp_iadd dL_law_464 ?_
      refine wp_sld (i := (k + 1)) (ix_add rfl rfl) (by omega) (by omega) dL_law_465 ?_
      refine wp_aload_n dL_law_466 rfl ?_
      refine wp_iload_n dL_law_467 rfl ?_
      refine wp_iconst (v := 2) dL_law_468 (by decide) ?_
      refine wp_iadd dL_law_469 ?_
      refine wp_sld (i := (k + 2)) (ix_add rfl rfl) (by omega) (by omega) dL_law_470 ?_
      refine wp_cV2 (z := mX5_noted) (n' := 243) kL_56 dL_law_471 (Nat.le_of_ble_eq_true rfl) (Nat.le_of_ble_eq_true rfl) tA_8 (Nat.le_of_ble_eq_true rfl) (Nat.le_of_ble_eq_true rfl) (Nat.le_refl _) (Nat.le_refl _) (s_X5_noted hc (fun hn => absurd hc0 hn) (fun i m hi hm ei em _ => (wp_af ?_)) (fun i m w hi hm ei em hw1 ew => (hno i m w hi hm ei em hw1 ew).elim))
      refine wp_aload_n dL_law_474 rfl ?_
      refine wp_aload_n dL_law_475 rfl ?_
      refine wp_iload_n dL_law_476 rfl ?_
      refine wp_iconst (v := 1) dL_law_477 (by decide) ?_
      refine wp_iadd dL_law_478 ?_
      refine wp_sld (i := (k + 1)) (ix_add rfl rfl) (by omega) (by omega) dL_law_479 ?_
      refine wp_aload_n dL_law_480 rfl ?_
      refine wp_iload_n dL_law_481 rfl ?_
      refine wp_iconst (v := 2) dL_law_482 (by decide) ?_
      refine wp_iadd dL_law_483 ?_
      refine wp_sld (i := (k + 2)) (ix_add rfl rfl) (by omega) (by omega) dL_law_484 ?_
      refine wp_cV2 (z := mX6_noted) (n' := 243) kL_59 dL_law_485 (Nat.le_of_ble_eq_true rfl) (Nat.le_of_ble_eq_true rfl) tA_235 (Nat.le_of_ble_eq_true rfl) (Nat.le_of_ble_eq_true rfl) (Nat.le_refl _) (Nat.le_refl _) (s_X6_noted rfl hM hn5 hg4 hc.ok.1.ggs (fun hn => absurd hc0 hn) (fun j m2 hj hm2 ej en _ => (wp_af ?_)) (fun i m w hi hm ei em hw1 ew => (hno i m w hi hm ei em hw1 ew).elim))
      refine wp_icmp_eq (tgt := 790) dL_law_488 (by decide) (fun hcm => ?_) (fun hcm => absurd rfl hcm)
      exact hK _ _ (Inv.kp hM hrc hpl (FC.rf M R) hc (VM.rf _))
  · have hno : ∀ i, i < (nG (M 236)) → (γ.2.2.2.2.2 (k + 1)) = nI i → False := fun i hi ei => hc0 (by rw [ei]; exact ⟨nI_pos' (by omega), (nI_ltI (by omega) (by omega)).mpr hi⟩)
    refine wp_aload_n dL_law_460 rfl ?_
    refine wp_aload_n dL_law_461 rfl ?_
    refine wp_iload_n dL_law_462 rfl ?_
    refine wp_iconst (v := 1) dL_law_463 (by decide) ?_
    refine wp_iadd dL_law_464 ?_
    refine wp_sld (i := (k + 1)) (ix_add rfl rfl) (by omega) (by omega) dL_law_465 ?_
    refine wp_aload_n dL_law_466 rfl ?_
    refine wp_iload_n dL_law_467 rfl ?_
    refine wp_iconst (v := 2) dL_law_468 (by decide) ?_
    refine wp_iadd dL_law_469 ?_
    refine wp_sld (i := (k + 2)) (ix_add rfl rfl) (by omega) (by omega) dL_law_470 ?_
    refine wp_cV2 (z := mX5_noted) (n' := 243) kL_56 dL_law_471 (Nat.le_of_ble_eq_true rfl) (Nat.le_of_ble_eq_true rfl) tA_8 (Nat.le_of_ble_eq_true rfl) (Nat.le_of_ble_eq_true rfl) (Nat.le_refl _) (Nat.le_refl _) (s_X5_noted hc (fun _ => (wp_af ?_)) (fun i m hi hm ei em _ => (hno i hi ei).elim) (fun i m w hi hm ei em hw1 ew => (hno i hi ei).elim))
    refine wp_aload_n dL_law_474 rfl ?_
    refine wp_aload_n dL_law_475 rfl ?_
    refine wp_iload_n dL_law_476 rfl ?_
    refine wp_iconst (v := 1) dL_law_477 (by decide) ?_
    refine wp_iadd dL_law_478 ?_
    refine wp_sld (i := (k + 1)) (ix_add rfl rfl) (by omega) (by omega) dL_law_479 ?_
    refine wp_aload_n dL_law_480 rfl ?_
    refine wp_iload_n dL_law_481 rfl ?_
    refine wp_iconst (v := 2) dL_law_482 (by decide) ?_
    refine wp_iadd dL_law_483 ?_
    refine wp_sld (i := (k + 2)) (ix_add rfl rfl) (by omega) (by omega) dL_law_484 ?_
    refine wp_cV2 (z := mX6_noted) (n' := 243) kL_59 dL_law_485 (Nat.le_of_ble_eq_true rfl) (Nat.le_of_ble_eq_true rfl) tA_235 (Nat.le_of_ble_eq_true rfl) (Nat.le_of_ble_eq_true rfl) (Nat.le_refl _) (Nat.le_refl _) (s_X6_noted rfl hM hn5 hg4 hc.ok.1.ggs (fun _ => (wp_af ?_)) (fun i m hi hm ei em _ => (hno i hi ei).elim) (fun i m w hi hm ei em hw1 ew => (hno i hi ei).elim))
    refine wp_icmp_eq (tgt := 790) dL_law_488 (by decide) (fun hcm => ?_) (fun hcm => absurd rfl hcm)
    exact hK _ _ (Inv.kp hM hrc hpl (FC.rf M R) hc (VM.rf _))

set_option maxRecDepth 100000 in
set_option maxHeartbeats 4000000 in
theorem lc_11 {γ : Gm} {l : Launch} {M : Mm} {R : Rm} {K : KT} {k : Nat} (hk : k + 6 ≤ γ.2.2.2.2.1) (hL : γ.2.2.2.2.1 ≤ 3072) (hI : Inv M R) (hK : ∀ M3 R1, Inv M3 R1 → WP γ l mL_law 8 8 243 790 [some (.ref 4), some (.ref 8), some (.ref 235), some (.int (nI k))] [] 243 M3 R1 K) : WP γ l mL_law 8 8 243 493 [some (.ref 4), some (.ref 8), some (.ref 235), some (.int (nI k))] [] 243 M R K := by
  obtain ⟨rc, pl, hrc, hpl, hM, hc⟩ := hI
  have h6 := hc.ib.h6
  have hn4 := hc.ok.n4
  have hn5 := hc.ok.n5
  have hp6 := hc.ok.p6
  have hg4 := hc.ok.g4
  by_cases hw : 0 ≤ (γ.2.2.2.2.2 (k + 1)) ∧ (γ.2.2.2.2.2 (k + 1)) ≤ 4
  · refine wp_aload_n dL_law_493 rfl ?_
    refine wp_aload_n dL_law_494 rfl ?_
    refine wp_iload_n dL_law_495 rfl ?_
    refine wp_iconst (v := 1) dL_law_496 (by decide) ?_
    refine wp_iadd dL_law_497 ?_
    refine wp_sld (i := (k + 1)) (ix_add rfl rfl) (by omega) (by omega) dL_law_498 ?_
    refine wp_cV1 (z := mX5_places) (n' := 243) kL_60 dL_law_499 (Nat.le_of_ble_eq_true rfl) (Nat.le_of_ble_eq_true rfl) tA_8 (Nat.le_of_ble_eq_true rfl) (Nat.le_of_ble_eq_true rfl) (Nat.le_refl _) (Nat.le_refl _) (s_X5_places hc (fun hn => absurd hw hn) (fun _ => (wp_af ?_)))
    refine wp_aload_n dL_law_502 rfl ?_
    refine wp_aload_n dL_law_503 rfl ?_
    refine wp_iload_n dL_law_504 rfl ?_
    refine wp_iconst (v := 1) dL_law_505 (by decide) ?_
    refine wp_iadd dL_law_506 ?_
    refine wp_sld (i := (k + 1)) (ix_add rfl rfl) (by omega) (by omega) dL_law_507 ?_
    refine wp_cV1 (z := mX6_places) (n' := 243) kL_64 dL_law_508 (Nat.le_of_ble_eq_true rfl) (Nat.le_of_ble_eq_true rfl) tA_235 (Nat.le_of_ble_eq_true rfl) (Nat.le_of_ble_eq_true rfl) (Nat.le_refl _) (Nat.le_refl _) (s_X6_places rfl hM hn4 hp6 (fun hn => absurd hw hn) (fun _ => (wp_af ?_)))
    refine wp_lcmp dL_law_511 ?_
    refine wp_if_eq (tgt := 790) dL_law_512 (by decide) (fun hcm => ?_) (fun hcm => absurd (lgc_self _) hcm)
    exact hK _ _ (Inv.kp hM hrc hpl (FC.rf M R) hc (VM.rf _))
  · refine wp_aload_n dL_law_493 rfl ?_
    refine wp_aload_n dL_law_494 rfl ?_
    refine wp_iload_n dL_law_495 rfl ?_
    refine wp_iconst (v := 1) dL_law_496 (by decide) ?_
    refine wp_iadd dL_law_497 ?_
    refine wp_sld (i := (k + 1)) (ix_add rfl rfl) (by omega) (by omega) dL_law_498 ?_
    refine wp_cV1 (z := mX5_places) (n' := 243) kL_60 dL_law_499 (Nat.le_of_ble_eq_true rfl) (Nat.le_of_ble_eq_true rfl) tA_8 (Nat.le_of_ble_eq_true rfl) (Nat.le_of_ble_eq_true rfl) (Nat.le_refl _) (Nat.le_refl _) (s_X5_places hc (fun _ => (wp_af ?_)) (fun hn => absurd hn hw))
    refine wp_aload_n dL_law_502 rfl ?_
    refine wp_aload_n dL_law_503 rfl ?_
    refine wp_iload_n dL_law_504 rfl ?_
    refine wp_iconst (v := 1) dL_law_505 (by decide) ?_
    refine wp_iadd dL_law_506 ?_
    refine wp_sld (i := (k + 1)) (ix_add rfl rfl) (by omega) (by omega) dL_law_507 ?_
    refine wp_cV1 (z := mX6_places) (n' := 243) kL_64 dL_law_508 (Nat.le_of_ble_eq_true rfl) (Nat.le_of_ble_eq_true rfl) tA_235 (Nat.le_of_ble_eq_true rfl) (Nat.le_of_ble_eq_true rfl) (Nat.le_refl _) (Nat.le_refl _) (s_X6_places rfl hM hn4 hp6 (fun _ => (wp_af ?_)) (fun hn => absurd hn hw))
    refine wp_lcmp dL_law_511 ?_
    refine wp_if_eq (tgt := 790) dL_law_512 (by decide) (fun hcm => ?_) (fun hcm => absurd (lgc_self _) hcm)
    exact hK _ _ (Inv.kp hM hrc hpl (FC.rf M R) hc (VM.rf _))

set_option maxRecDepth 100000 in
set_option maxHeartbeats 4000000 in
theorem lc_12 {γ : Gm} {l : Launch} {M : Mm} {R : Rm} {K : KT} {k : Nat} (hk : k + 6 ≤ γ.2.2.2.2.1) (hL : γ.2.2.2.2.1 ≤ 3072) (hI : Inv M R) (hK : ∀ M3 R1, Inv M3 R1 → WP γ l mL_law 8 8 243 790 [some (.ref 4), some (.ref 8), some (.ref 235), some (.int (nI k))] [] 243 M3 R1 K) : WP γ l mL_law 8 8 243 517 [some (.ref 4), some (.ref 8), some (.ref 235), some (.int (nI k))] [] 243 M R K := by
  obtain ⟨rc, pl, hrc, hpl, hM, hc⟩ := hI
  have h6 := hc.ib.h6
  have hn4 := hc.ok.n4
  have hn5 := hc.ok.n5
  have hp6 := hc.ok.p6
  have hg4 := hc.ok.g4
  refine wp_aload_n dL_law_517 rfl ?_
  refine wp_aload_n dL_law_518 rfl ?_
  refine wp_iload_n dL_law_519 rfl ?_
  refine wp_iconst (v := 1) dL_law_520 (by decide) ?_
  refine wp_iadd dL_law_521 ?_
  refine wp_sld (i := (k + 1)) (ix_add rfl rfl) (by omega) (by omega) dL_law_522 ?_
  refine wp_cV1 (z := mX5_count) (n' := 243) kL_65 dL_law_523 (Nat.le_of_ble_eq_true rfl) (Nat.le_of_ble_eq_true rfl) tA_8 (Nat.le_of_ble_eq_true rfl) (Nat.le_of_ble_eq_true rfl) (Nat.le_refl _) (Nat.le_refl _) (s_X5_count hc (wp_af ?_))
  refine wp_aload_n dL_law_526 rfl ?_
  refine wp_aload_n dL_law_527 rfl ?_
  refine wp_iload_n dL_law_528 rfl ?_
  refine wp_iconst (v := 1) dL_law_529 (by decide) ?_
  refine wp_iadd dL_law_530 ?_
  refine wp_sld (i := (k + 1)) (ix_add rfl rfl) (by omega) (by omega) dL_law_531 ?_
  refine wp_cV1 (z := mX6_count) (n' := 243) kL_68 dL_law_532 (Nat.le_of_ble_eq_true rfl) (Nat.le_of_ble_eq_true rfl) tA_235 (Nat.le_of_ble_eq_true rfl) (Nat.le_of_ble_eq_true rfl) (Nat.le_refl _) (Nat.le_refl _) (s_X6_count rfl hM hn4 hp6 (wp_af ?_))
  rw [hpl, hrc]
  refine wp_icmp_eq (tgt := 790) dL_law_535 (by decide) (fun hcm => ?_) (fun hcm => absurd rfl hcm)
  exact hK _ _ (Inv.kp hM hrc hpl (FC.rf M R) hc (VM.rf _))

set_option maxRecDepth 100000 in
set_option maxHeartbeats 4000000 in
theorem lc_13 {γ : Gm} {l : Launch} {M : Mm} {R : Rm} {K : KT} {k : Nat} (hk : k + 6 ≤ γ.2.2.2.2.1) (hL : γ.2.2.2.2.1 ≤ 3072) (hI : Inv M R) (hK : ∀ M3 R1, Inv M3 R1 → WP γ l mL_law 8 8 243 790 [some (.ref 4), some (.ref 8), some (.ref 235), some (.int (nI k))] [] 243 M3 R1 K) : WP γ l mL_law 8 8 243 540 [some (.ref 4), some (.ref 8), some (.ref 235), some (.int (nI k))] [] 243 M R K := by
  obtain ⟨rc, pl, hrc, hpl, hM, hc⟩ := hI
  have h6 := hc.ib.h6
  have hn4 := hc.ok.n4
  have hn5 := hc.ok.n5
  have hp6 := hc.ok.p6
  have hg4 := hc.ok.g4
  by_cases hc0 : 0 ≤ (γ.2.2.2.2.2 (k + 1)) ∧ (γ.2.2.2.2.2 (k + 1)) ≤ 39
  · by_cases hv : 1 ≤ (γ.2.2.2.2.2 (k + 2)) ∧ (γ.2.2.2.2.2 (k + 2)) ≤ 9999
    · refine wp_aload_n dL_law_540 rfl ?_
      refine wp_aload_n dL_law_541 rfl ?_
      refine wp_iload_n dL_law_542 rfl ?_
      refine wp_iconst (v := 1) dL_law_543 (by decide) ?_
      refine wp_iadd dL_law_544 ?_
      refine wp_sld (i := (k + 1)) (ix_add rfl rfl) (by omega) (by omega) dL_law_545 ?_
      refine wp_aload_n dL_law_546 rfl ?_
      refine wp_iload_n dL_law_547 rfl ?_
      refine wp_iconst (v := 2) dL_law_548 (by decide) ?_
      refine wp_iadd dL_law_549 ?_
      refine wp_sld (i := (k + 2)) (ix_add rfl rfl) (by omega) (by omega) dL_law_550 ?_
      refine wp_cV2 (z := mX5_reaches) (n' := 243) kL_69 dL_law_551 (Nat.le_of_ble_eq_true rfl) (Nat.le_of_ble_eq_true rfl) tA_8 (Nat.le_of_ble_eq_true rfl) (Nat.le_of_ble_eq_true rfl) (Nat.le_refl _) (Nat.le_refl _) (s_X5_reaches hc (fun hn => absurd hc0 hn) (fun _ hn => absurd hv hn) (fun i hi ei _ M1 c1 f1 => (wp_af ?_)))
      have hM1 := hM.fc f1
      have hs1 : M1 236 = M 236 := (f1 236 (by omega)).1
      have hrc1 : M1 235 3 = nI rc := by rw [(f1 235 (by omega)).1]; exact hrc
      have hpl1 : M1 235 7 = nI pl := by rw [(f1 235 (by omega)).1]; exact hpl
      refine wp_aload_n dL_law_554 rfl ?_
      refine wp_aload_n dL_law_555 rfl ?_
      refine wp_iload_n dL_law_556 rfl ?_
      refine wp_iconst (v := 1) dL_law_557 (by decide) ?_
      refine wp_iadd dL_law_558 ?_
      refine wp_sld (i := (k + 1)) (ix_add rfl rfl) (by omega) (by omega) dL_law_559 ?_
      refine wp_aload_n dL_law_560 rfl ?_
      refine wp_iload_n dL_law_561 rfl ?_
      refine wp_iconst (v := 2) dL_law_562 (by decide) ?_
      refine wp_iadd dL_law_563 ?_
      refine wp_sld (i := (k + 2)) (ix_add rfl rfl) (by omega) (by omega) dL_law_564 ?_
      refine wp_cV2 (z := mX6_reaches) (n' := 243) kL_72 dL_law_565 (Nat.le_of_ble_eq_true rfl) (Nat.le_of_ble_eq_true rfl) tA_235 (Nat.le_of_ble_eq_true rfl) (Nat.le_of_ble_eq_true rfl) (Nat.le_refl _) (Nat.le_refl _) (s_X6_reaches hs1 hM1 hc.ok.1 (fun hn => absurd hc0 hn) (fun _ hn => absurd hv hn) (fun j hj ej _ X => (wp_af ?_)))
      obtain rfl := (nI_eq (by omega) (by omega)).mp (ei.symm.trans ej)
      refine wp_icmp_eq (tgt := 790) dL_law_568 (by decide) (fun hcm => ?_) (fun hcm => absurd rfl hcm)
      exact hK _ _ (Inv.kp hM hrc hpl f1 c1 (VM.u237 _ _))
    · refine wp_aload_n dL_law_540 rfl ?_
      refine wp_aload_n dL_law_541 rfl ?_
      refine wp_iload_n dL_law_542 rfl ?_
      refine wp_iconst (v := 1) dL_law_543 (by decide) ?_
      refine wp_iadd dL_law_544 ?_
      refine wp_sld (i := (k + 1)) (ix_add rfl rfl) (by omega) (by omega) dL_law_545 ?_
      refine wp_aload_n dL_law_546 rfl ?_
      refine wp_iload_n dL_law_547 rfl ?_
      refine wp_iconst (v := 2) dL_law_548 (by decide) ?_
      refine wp_iadd dL_law_549 ?_
      refine wp_sld (i := (k + 2)) (ix_add rfl rfl) (by omega) (by omega) dL_law_550 ?_
      refine wp_cV2 (z := mX5_reaches) (n' := 243) kL_69 dL_law_551 (Nat.le_of_ble_eq_true rfl) (Nat.le_of_ble_eq_true rfl) tA_8 (Nat.le_of_ble_eq_true rfl) (Nat.le_of_ble_eq_true rfl) (Nat.le_refl _) (Nat.le_refl _) (s_X5_reaches hc (fun hn => absurd hc0 hn) (fun _ _ => (wp_af ?_)) (fun _ _ _ hn => absurd hn hv))
      refine wp_aload_n dL_law_554 rfl ?_
      refine wp_aload_n dL_law_555 rfl ?_
      refine wp_iload_n dL_law_556 rfl ?_
      refine wp_iconst (v := 1) dL_law_557 (by decide) ?_
      refine wp_iadd dL_law_558 ?_
      refine wp_sld (i := (k + 1)) (ix_add rfl rfl) (by omega) (by omega) dL_law_559 ?_
      refine wp_aload_n dL_law_560 rfl ?_
      refine wp_iload_n dL_law_561 rfl ?_
      refine wp_iconst (v := 2) dL_law_562 (by decide) ?_
      refine wp_iadd dL_law_563 ?_
      refine wp_sld (i := (k + 2)) (ix_add rfl rfl) (by omega) (by omega) dL_law_564 ?_
      refine wp_cV2 (z := mX6_reaches) (n' := 243) kL_72 dL_law_565 (Nat.le_of_ble_eq_true rfl) (Nat.le_of_ble_eq_true rfl) tA_235 (Nat.le_of_ble_eq_true rfl) (Nat.le_of_ble_eq_true rfl) (Nat.le_refl _) (Nat.le_refl _) (s_X6_reaches rfl hM hc.ok.1 (fun hn => absurd hc0 hn) (fun _ _ => (wp_af ?_)) (fun _ _ _ hn => absurd hn hv))
      refine wp_icmp_eq (tgt := 790) dL_law_568 (by decide) (fun hcm => ?_) (fun hcm => absurd rfl hcm)
      exact hK _ _ (Inv.kp hM hrc hpl (FC.rf M R) hc (VM.rf _))
  · have hno : ∀ i, i < 40 → (γ.2.2.2.2.2 (k + 1)) = nI i → False := fun i hi ei => hc0 (by rw [ei]; exact ⟨nI_pos' (by omega), (nI_leI (by omega) (by decide)).mpr (show i ≤ 39 by omega)⟩)
    refine wp_aload_n dL_law_540 rfl ?_
    refine wp_aload_n dL_law_541 rfl ?_
    refine wp_iload_n dL_law_542 rfl ?_
    refine wp_iconst (v := 1) dL_law_543 (by decide) ?_
    refine wp_iadd dL_law_544 ?_
    refine wp_sld (i := (k + 1)) (ix_add rfl rfl) (by omega) (by omega) dL_law_545 ?_
    refine wp_aload_n dL_law_546 rfl ?_
    refine wp_iload_n dL_law_547 rfl ?_
    refine wp_iconst (v := 2) dL_law_548 (by decide) ?_
    refine wp_iadd dL_law_549 ?_
    refine wp_sld (i := (k + 2)) (ix_add rfl rfl) (by omega) (by omega) dL_law_550 ?_
    refine wp_cV2 (z := mX5_reaches) (n' := 243) kL_69 dL_law_551 (Nat.le_of_ble_eq_true rfl) (Nat.le_of_ble_eq_true rfl) tA_8 (Nat.le_of_ble_eq_true rfl) (Nat.le_of_ble_eq_true rfl) (Nat.le_refl _) (Nat.le_refl _) (s_X5_reaches hc (fun _ => (wp_af ?_)) (fun hn => absurd hn hc0) (fun i hi ei => (hno i hi ei).elim))
    refine wp_aload_n dL_law_554 rfl ?_
    refine wp_aload_n dL_law_555 rfl ?_
    refine wp_iload_n dL_law_556 rfl ?_
    refine wp_iconst (v := 1) dL_law_557 (by decide) ?_
    refine wp_iadd dL_law_558 ?_
    refine wp_sld (i := (k + 1)) (ix_add rfl rfl) (by omega) (by omega) dL_law_559 ?_
    refine wp_aload_n dL_law_560 rfl ?_
    refine wp_iload_n dL_law_561 rfl ?_
    refine wp_iconst (v := 2) dL_law_562 (by decide) ?_
    refine wp_iadd dL_law_563 ?_
    refine wp_sld (i := (k + 2)) (ix_add rfl rfl) (by omega) (by omega) dL_law_564 ?_
    refine wp_cV2 (z := mX6_reaches) (n' := 243) kL_72 dL_law_565 (Nat.le_of_ble_eq_true rfl) (Nat.le_of_ble_eq_true rfl) tA_235 (Nat.le_of_ble_eq_true rfl) (Nat.le_of_ble_eq_true rfl) (Nat.le_refl _) (Nat.le_refl _) (s_X6_reaches rfl hM hc.ok.1 (fun _ => (wp_af ?_)) (fun hn => absurd hn hc0) (fun i hi ei => (hno i hi ei).elim))
    refine wp_icmp_eq (tgt := 790) dL_law_568 (by decide) (fun hcm => ?_) (fun hcm => absurd rfl hcm)
    exact hK _ _ (Inv.kp hM hrc hpl (FC.rf M R) hc (VM.rf _))

set_option maxRecDepth 100000 in
set_option maxHeartbeats 4000000 in
theorem lc_14 {γ : Gm} {l : Launch} {M : Mm} {R : Rm} {K : KT} {k : Nat} (hk : k + 6 ≤ γ.2.2.2.2.1) (hL : γ.2.2.2.2.1 ≤ 3072) (hI : Inv M R) (hK : ∀ M3 R1, Inv M3 R1 → WP γ l mL_law 8 8 243 790 [some (.ref 4), some (.ref 8), some (.ref 235), some (.int (nI k))] [] 243 M3 R1 K) : WP γ l mL_law 8 8 243 573 [some (.ref 4), some (.ref 8), some (.ref 235), some (.int (nI k))] [] 243 M R K := by
  obtain ⟨rc, pl, hrc, hpl, hM, hc⟩ := hI
  have h6 := hc.ib.h6
  have hn4 := hc.ok.n4
  have hn5 := hc.ok.n5
  have hp6 := hc.ok.p6
  have hg4 := hc.ok.g4
  by_cases hA : (0 ≤ (γ.2.2.2.2.2 (k + 1)) ∧ (γ.2.2.2.2.2 (k + 1)) < nI (nP (M 236))) ∧ (0 ≤ (γ.2.2.2.2.2 (k + 2)) ∧ (γ.2.2.2.2.2 (k + 2)) ≤ 39)
  · by_cases hB : (1 ≤ (γ.2.2.2.2.2 (k + 3)) ∧ (γ.2.2.2.2.2 (k + 3)) ≤ 99) ∧ (0 ≤ (γ.2.2.2.2.2 (k + 4)) ∧ (γ.2.2.2.2.2 (k + 4)) ≤ 1)
    · refine wp_aload_n dL_law_573 rfl ?_
      refine wp_aload_n dL_law_574 rfl ?_
      refine wp_iload_n dL_law_575 rfl ?_
      refine wp_iconst (v := 1) dL_law_576 (by decide) ?_
      refine wp_iadd dL_law_577 ?_
      refine wp_sld (i := (k + 1)) (ix_add rfl rfl) (by omega) (by omega) dL_law_578 ?_
      refine wp_aload_n dL_law_579 rfl ?_
      refine wp_iload_n dL_law_580 rfl ?_
      refine wp_iconst (v := 2) dL_law_581 (by decide) ?_
      refine wp_iadd dL_law_582 ?_
      refine wp_sld (i := (k + 2)) (ix_add rfl rfl) (by omega) (by omega) dL_law_583 ?_
      refine wp_aload_n dL_law_584 rfl ?_
      refine wp_iload_n dL_law_585 rfl ?_
      refine wp_iconst (v := 3) dL_law_586 (by decide) ?_
      refine wp_iadd dL_law_587 ?_
      refine wp_sld (i := (k + 3)) (ix_add rfl rfl) (by omega) (by omega) dL_law_588 ?_
      refine wp_aload_n dL_law_589 rfl ?_
      refine wp_iload_n dL_law_590 rfl ?_
      refine wp_iconst (v := 4) dL_law_591 (by decide) ?_
      refine wp_iadd dL_law_592 ?_
      refine wp_sld (i := (k + 4)) (ix_add rfl rfl) (by omega) (by omega) dL_law_593 ?_
      refine wp_cV4 (z := mX5_bestPeriod) (n' := 243) kL_73 dL_law_594 (Nat.le_of_ble_eq_true rfl) (Nat.le_of_ble_eq_true rfl) tA_8 (Nat.le_of_ble_eq_true rfl) (Nat.le_of_ble_eq_true rfl) (Nat.le_refl _) (Nat.le_refl _) (s_X5_bestPeriod hc (fun hn => absurd hA hn) (fun _ hn => absurd hB hn) (fun a1 a2 a3 ha1 ha2 ha3 ea1 ea2 ea3 _ M1 c1 f1 => (wp_af ?_)))
      have hM1 := hM.fc f1
      have hs1 : M1 236 = M 236 := (f1 236 (by omega)).1
      have hrc1 : M1 235 3 = nI rc := by rw [(f1 235 (by omega)).1]; exact hrc
      have hpl1 : M1 235 7 = nI pl := by rw [(f1 235 (by omega)).1]; exact hpl
      refine wp_aload_n dL_law_597 rfl ?_
      refine wp_aload_n dL_law_598 rfl ?_
      refine wp_iload_n dL_law_599 rfl ?_
      refine wp_iconst (v := 1) dL_law_600 (by decide) ?_
      refine wp_iadd dL_law_601 ?_
      refine wp_sld (i := (k + 1)) (ix_add rfl rfl) (by omega) (by omega) dL_law_602 ?_
      refine wp_aload_n dL_law_603 rfl ?_
      refine wp_iload_n dL_law_604 rfl ?_
      refine wp_iconst (v := 2) dL_law_605 (by decide) ?_
      refine wp_iadd dL_law_606 ?_
      refine wp_sld (i := (k + 2)) (ix_add rfl rfl) (by omega) (by omega) dL_law_607 ?_
      refine wp_aload_n dL_law_608 rfl ?_
      refine wp_iload_n dL_law_609 rfl ?_
      refine wp_iconst (v := 3) dL_law_610 (by decide) ?_
      refine wp_iadd dL_law_611 ?_
      refine wp_sld (i := (k + 3)) (ix_add rfl rfl) (by omega) (by omega) dL_law_612 ?_
      refine wp_aload_n dL_law_613 rfl ?_
      refine wp_iload_n dL_law_614 rfl ?_
      refine wp_iconst (v := 4) dL_law_615 (by decide) ?_
      refine wp_iadd dL_law_616 ?_
      refine wp_sld (i := (k + 4)) (ix_add rfl rfl) (by omega) (by omega) dL_law_617 ?_
      refine wp_cV4 (z := mX6_bestPeriod) (n' := 243) kL_77 dL_law_618 (Nat.le_of_ble_eq_true rfl) (Nat.le_of_ble_eq_true rfl) tA_235 (Nat.le_of_ble_eq_true rfl) (Nat.le_of_ble_eq_true rfl) (Nat.le_refl _) (Nat.le_refl _) (s_X6_bestPeriod hs1 hM1 hc.ok.1 (fun hn => absurd hA hn) (fun _ hn => absurd hB hn) (fun b1 b2 b3 hb1 hb2 hb3 eb1 eb2 eb3 _ X => (wp_af ?_)))
      obtain rfl := (nI_eq (by omega) (by omega)).mp (ea1.symm.trans eb1)
      obtain rfl := (nI_eq (by omega) (by omega)).mp (ea2.symm.trans eb2)
      obtain rfl := (nI_eq (by omega) (by omega)).mp (ea3.symm.trans eb3)
      refine wp_icmp_eq (tgt := 790) dL_law_621 (by decide) (fun hcm => ?_) (fun hcm => absurd rfl hcm)
      exact hK _ _ (Inv.kp hM hrc hpl f1 c1 (VM.u237 _ _))
    · by_cases hm : 1 ≤ (γ.2.2.2.2.2 (k + 3)) ∧ (γ.2.2.2.2.2 (k + 3)) ≤ 99
      · have hz : ¬ (0 ≤ (γ.2.2.2.2.2 (k + 4)) ∧ (γ.2.2.2.2.2 (k + 4)) ≤ 1) := fun e => hB ⟨hm, e⟩
        refine wp_aload_n dL_law_573 rfl ?_
        refine wp_aload_n dL_law_574 rfl ?_
        refine wp_iload_n dL_law_575 rfl ?_
        refine wp_iconst (v := 1) dL_law_576 (by decide) ?_
        refine wp_iadd dL_law_577 ?_
        refine wp_sld (i := (k + 1)) (ix_add rfl rfl) (by omega) (by omega) dL_law_578 ?_
        refine wp_aload_n dL_law_579 rfl ?_
        refine wp_iload_n dL_law_580 rfl ?_
        refine wp_iconst (v := 2) dL_law_581 (by decide) ?_
        refine wp_iadd dL_law_582 ?_
        refine wp_sld (i := (k + 2)) (ix_add rfl rfl) (by omega) (by omega) dL_law_583 ?_
        refine wp_aload_n dL_law_584 rfl ?_
        refine wp_iload_n dL_law_585 rfl ?_
        refine wp_iconst (v := 3) dL_law_586 (by decide) ?_
        refine wp_iadd dL_law_587 ?_
        refine wp_sld (i := (k + 3)) (ix_add rfl rfl) (by omega) (by omega) dL_law_588 ?_
        refine wp_aload_n dL_law_589 rfl ?_
        refine wp_iload_n dL_law_590 rfl ?_
        refine wp_iconst (v := 4) dL_law_591 (by decide) ?_
        refine wp_iadd dL_law_592 ?_
        refine wp_sld (i := (k + 4)) (ix_add rfl rfl) (by omega) (by omega) dL_law_593 ?_
        refine wp_cV4 (z := mX5_bestPeriod) (n' := 243) kL_73 dL_law_594 (Nat.le_of_ble_eq_true rfl) (Nat.le_of_ble_eq_true rfl) tA_8 (Nat.le_of_ble_eq_true rfl) (Nat.le_of_ble_eq_true rfl) (Nat.le_refl _) (Nat.le_refl _) (s_X5_bestPeriod hc (fun hn => absurd hA hn) (fun _ _ => (wp_af ?_)) (fun a1 a2 a3 ha1 ha2 ha3 ea1 ea2 ea3 e => absurd e hz))
        refine wp_aload_n dL_law_597 rfl ?_
        refine wp_aload_n dL_law_598 rfl ?_
        refine wp_iload_n dL_law_599 rfl ?_
        refine wp_iconst (v := 1) dL_law_600 (by decide) ?_
        refine wp_iadd dL_law_601 ?_
        refine wp_sld (i := (k + 1)) (ix_add rfl rfl) (by omega) (by omega) dL_law_602 ?_
        refine wp_aload_n dL_law_603 rfl ?_
        refine wp_iload_n dL_law_604 rfl ?_
        refine wp_iconst (v := 2) dL_law_605 (by decide) ?_
        refine wp_iadd dL_law_606 ?_
        refine wp_sld (i := (k + 2)) (ix_add rfl rfl) (by omega) (by omega) dL_law_607 ?_
        refine wp_aload_n dL_law_608 rfl ?_
        refine wp_iload_n dL_law_609 rfl ?_
        refine wp_iconst (v := 3) dL_law_610 (by decide) ?_
        refine wp_iadd dL_law_611 ?_
        refine wp_sld (i := (k + 3)) (ix_add rfl rfl) (by omega) (by omega) dL_law_612 ?_
        refine wp_aload_n dL_law_613 rfl ?_
        refine wp_iload_n dL_law_614 rfl ?_
        refine wp_iconst (v := 4) dL_law_615 (by decide) ?_
        refine wp_iadd dL_law_616 ?_
        refine wp_sld (i := (k + 4)) (ix_add rfl rfl) (by omega) (by omega) dL_law_617 ?_
        refine wp_cV4 (z := mX6_bestPeriod) (n' := 243) kL_77 dL_law_618 (Nat.le_of_ble_eq_true rfl) (Nat.le_of_ble_eq_true rfl) tA_235 (Nat.le_of_ble_eq_true rfl) (Nat.le_of_ble_eq_true rfl) (Nat.le_refl _) (Nat.le_refl _) (s_X6_bestPeriod rfl hM hc.ok.1 (fun hn => absurd hA hn) (fun _ _ => (wp_af ?_)) (fun a1 a2 a3 ha1 ha2 ha3 ea1 ea2 ea3 e => absurd e hz))
        refine wp_icmp_eq (tgt := 790) dL_law_621 (by decide) (fun hcm => ?_) (fun hcm => absurd rfl hcm)
        exact hK _ _ (Inv.kp hM hrc hpl (FC.rf M R) hc (VM.rf _))
      · refine wp_aload_n dL_law_573 rfl ?_
        refine wp_aload_n dL_law_574 rfl ?_
        refine wp_iload_n dL_law_575 rfl ?_
        refine wp_iconst (v := 1) dL_law_576 (by decide) ?_
        refine wp_iadd dL_law_577 ?_
        refine wp_sld (i := (k + 1)) (ix_add rfl rfl) (by omega) (by omega) dL_law_578 ?_
        refine wp_aload_n dL_law_579 rfl ?_
        refine wp_iload_n dL_law_580 rfl ?_
        refine wp_iconst (v := 2) dL_law_581 (by decide) ?_
        refine wp_iadd dL_law_582 ?_
        refine wp_sld (i := (k + 2)) (ix_add rfl rfl) (by omega) (by omega) dL_law_583 ?_
        refine wp_aload_n dL_law_584 rfl ?_
        refine wp_iload_n dL_law_585 rfl ?_
        refine wp_iconst (v := 3) dL_law_586 (by decide) ?_
        refine wp_iadd dL_law_587 ?_
        refine wp_sld (i := (k + 3)) (ix_add rfl rfl) (by omega) (by omega) dL_law_588 ?_
        refine wp_aload_n dL_law_589 rfl ?_
        refine wp_iload_n dL_law_590 rfl ?_
        refine wp_iconst (v := 4) dL_law_591 (by decide) ?_
        refine wp_iadd dL_law_592 ?_
        refine wp_sld (i := (k + 4)) (ix_add rfl rfl) (by omega) (by omega) dL_law_593 ?_
        refine wp_cV4 (z := mX5_bestPeriod) (n' := 243) kL_73 dL_law_594 (Nat.le_of_ble_eq_true rfl) (Nat.le_of_ble_eq_true rfl) tA_8 (Nat.le_of_ble_eq_true rfl) (Nat.le_of_ble_eq_true rfl) (Nat.le_refl _) (Nat.le_refl _) (s_X5_best0 hc hA hm (wp_af ?_))
        refine wp_aload_n dL_law_597 rfl ?_
        refine wp_aload_n dL_law_598 rfl ?_
        refine wp_iload_n dL_law_599 rfl ?_
        refine wp_iconst (v := 1) dL_law_600 (by decide) ?_
        refine wp_iadd dL_law_601 ?_
        refine wp_sld (i := (k + 1)) (ix_add rfl rfl) (by omega) (by omega) dL_law_602 ?_
        refine wp_aload_n dL_law_603 rfl ?_
        refine wp_iload_n dL_law_604 rfl ?_
        refine wp_iconst (v := 2) dL_law_605 (by decide) ?_
        refine wp_iadd dL_law_606 ?_
        refine wp_sld (i := (k + 2)) (ix_add rfl rfl) (by omega) (by omega) dL_law_607 ?_
        refine wp_aload_n dL_law_608 rfl ?_
        refine wp_iload_n dL_law_609 rfl ?_
        refine wp_iconst (v := 3) dL_law_610 (by decide) ?_
        refine wp_iadd dL_law_611 ?_
        refine wp_sld (i := (k + 3)) (ix_add rfl rfl) (by omega) (by omega) dL_law_612 ?_
        refine wp_aload_n dL_law_613 rfl ?_
        refine wp_iload_n dL_law_614 rfl ?_
        refine wp_iconst (v := 4) dL_law_615 (by decide) ?_
        refine wp_iadd dL_law_616 ?_
        refine wp_sld (i := (k + 4)) (ix_add rfl rfl) (by omega) (by omega) dL_law_617 ?_
        refine wp_cV4 (z := mX6_bestPeriod) (n' := 243) kL_77 dL_law_618 (Nat.le_of_ble_eq_true rfl) (Nat.le_of_ble_eq_true rfl) tA_235 (Nat.le_of_ble_eq_true rfl) (Nat.le_of_ble_eq_true rfl) (Nat.le_refl _) (Nat.le_refl _) (s_X6_best0 rfl hM hc.ok.1 hA hm (wp_af ?_))
        refine wp_icmp_eq (tgt := 790) dL_law_621 (by decide) (fun hcm => ?_) (fun hcm => absurd rfl hcm)
        exact hK _ _ (Inv.kp hM hrc hpl (FC.rf M R) hc (VM.rf _))
  · have hno : ∀ a1 a2, a1 < (nP (M 236)) → a2 < 40 → (γ.2.2.2.2.2 (k + 1)) = nI a1 → (γ.2.2.2.2.2 (k + 2)) = nI a2 → False := fun a1 a2 h1 h2 e1 e2 => hA ⟨by rw [e1]; exact ⟨nI_pos' (by omega), (nI_ltI (by omega) (by omega)).mpr h1⟩, by rw [e2]; exact ⟨nI_pos' (by omega), (nI_leI (by omega) (by decide)).mpr (show a2 ≤ 39 by omega)⟩⟩
    refine wp_aload_n dL_law_573 rfl ?_
    refine wp_aload_n dL_law_574 rfl ?_
    refine wp_iload_n dL_law_575 rfl ?_
    refine wp_iconst (v := 1) dL_law_576 (by decide) ?_
    refine wp_iadd dL_law_577 ?_
    refine wp_sld (i := (k + 1)) (ix_add rfl rfl) (by omega) (by omega) dL_law_578 ?_
    refine wp_aload_n dL_law_579 rfl ?_
    refine wp_iload_n dL_law_580 rfl ?_
    refine wp_iconst (v := 2) dL_law_581 (by decide) ?_
    refine wp_iadd dL_law_582 ?_
    refine wp_sld (i := (k + 2)) (ix_add rfl rfl) (by omega) (by omega) dL_law_583 ?_
    refine wp_aload_n dL_law_584 rfl ?_
    refine wp_iload_n dL_law_585 rfl ?_
    refine wp_iconst (v := 3) dL_law_586 (by decide) ?_
    refine wp_iadd dL_law_587 ?_
    refine wp_sld (i := (k + 3)) (ix_add rfl rfl) (by omega) (by omega) dL_law_588 ?_
    refine wp_aload_n dL_law_589 rfl ?_
    refine wp_iload_n dL_law_590 rfl ?_
    refine wp_iconst (v := 4) dL_law_591 (by decide) ?_
    refine wp_iadd dL_law_592 ?_
    refine wp_sld (i := (k + 4)) (ix_add rfl rfl) (by omega) (by omega) dL_law_593 ?_
    refine wp_cV4 (z := mX5_bestPeriod) (n' := 243) kL_73 dL_law_594 (Nat.le_of_ble_eq_true rfl) (Nat.le_of_ble_eq_true rfl) tA_8 (Nat.le_of_ble_eq_true rfl) (Nat.le_of_ble_eq_true rfl) (Nat.le_refl _) (Nat.le_refl _) (s_X5_bestPeriod hc (fun _ => (wp_af ?_)) (fun hn => absurd hn hA) (fun a1 a2 a3 ha1 ha2 ha3 ea1 ea2 ea3 _ => (hno a1 a2 ha1 ha2 ea1 ea2).elim))
    refine wp_aload_n dL_law_597 rfl ?_
    refine wp_aload_n dL_law_598 rfl ?_
    refine wp_iload_n dL_law_599 rfl ?_
    refine wp_iconst (v := 1) dL_law_600 (by decide) ?_
    refine wp_iadd dL_law_601 ?_
    refine wp_sld (i := (k + 1)) (ix_add rfl rfl) (by omega) (by omega) dL_law_602 ?_
    refine wp_aload_n dL_law_603 rfl ?_
    refine wp_iload_n dL_law_604 rfl ?_
    refine wp_iconst (v := 2) dL_law_605 (by decide) ?_
    refine wp_iadd dL_law_606 ?_
    refine wp_sld (i := (k + 2)) (ix_add rfl rfl) (by omega) (by omega) dL_law_607 ?_
    refine wp_aload_n dL_law_608 rfl ?_
    refine wp_iload_n dL_law_609 rfl ?_
    refine wp_iconst (v := 3) dL_law_610 (by decide) ?_
    refine wp_iadd dL_law_611 ?_
    refine wp_sld (i := (k + 3)) (ix_add rfl rfl) (by omega) (by omega) dL_law_612 ?_
    refine wp_aload_n dL_law_613 rfl ?_
    refine wp_iload_n dL_law_614 rfl ?_
    refine wp_iconst (v := 4) dL_law_615 (by decide) ?_
    refine wp_iadd dL_law_616 ?_
    refine wp_sld (i := (k + 4)) (ix_add rfl rfl) (by omega) (by omega) dL_law_617 ?_
    refine wp_cV4 (z := mX6_bestPeriod) (n' := 243) kL_77 dL_law_618 (Nat.le_of_ble_eq_true rfl) (Nat.le_of_ble_eq_true rfl) tA_235 (Nat.le_of_ble_eq_true rfl) (Nat.le_of_ble_eq_true rfl) (Nat.le_refl _) (Nat.le_refl _) (s_X6_bestPeriod rfl hM hc.ok.1 (fun _ => (wp_af ?_)) (fun hn => absurd hn hA) (fun a1 a2 a3 ha1 ha2 ha3 ea1 ea2 ea3 _ => (hno a1 a2 ha1 ha2 ea1 ea2).elim))
    refine wp_icmp_eq (tgt := 790) dL_law_621 (by decide) (fun hcm => ?_) (fun hcm => absurd rfl hcm)
    exact hK _ _ (Inv.kp hM hrc hpl (FC.rf M R) hc (VM.rf _))

set_option maxRecDepth 100000 in
set_option maxHeartbeats 4000000 in
theorem lc_15 {γ : Gm} {l : Launch} {M : Mm} {R : Rm} {K : KT} {k : Nat} (hk : k + 6 ≤ γ.2.2.2.2.1) (hL : γ.2.2.2.2.1 ≤ 3072) (hI : Inv M R) (hK : ∀ M3 R1, Inv M3 R1 → WP γ l mL_law 8 8 243 790 [some (.ref 4), some (.ref 8), some (.ref 235), some (.int (nI k))] [] 243 M3 R1 K) : WP γ l mL_law 8 8 243 626 [some (.ref 4), some (.ref 8), some (.ref 235), some (.int (nI k))] [] 243 M R K := by
  obtain ⟨rc, pl, hrc, hpl, hM, hc⟩ := hI
  have h6 := hc.ib.h6
  have hn4 := hc.ok.n4
  have hn5 := hc.ok.n5
  have hp6 := hc.ok.p6
  have hg4 := hc.ok.g4
  refine wp_aload_n dL_law_626 rfl ?_
  refine wp_cV0 (z := mX5_calmIn) (n' := 243) kL_78 dL_law_627 (Nat.le_of_ble_eq_true rfl) (Nat.le_of_ble_eq_true rfl) tA_8 (Nat.le_of_ble_eq_true rfl) (Nat.le_of_ble_eq_true rfl) (Nat.le_refl _) (Nat.le_refl _) (s_X5_calmIn hc (fun M1 c1 f1 => (wp_af ?_)))
  have hM1 := hM.fc f1
  have hs1 : M1 236 = M 236 := (f1 236 (by omega)).1
  have hrc1 : M1 235 3 = nI rc := by rw [(f1 235 (by omega)).1]; exact hrc
  have hpl1 : M1 235 7 = nI pl := by rw [(f1 235 (by omega)).1]; exact hpl
  refine wp_aload_n dL_law_630 rfl ?_
  refine wp_cV0 (z := mX6_calmIn) (n' := 243) kL_82 dL_law_631 (Nat.le_of_ble_eq_true rfl) (Nat.le_of_ble_eq_true rfl) tA_235 (Nat.le_of_ble_eq_true rfl) (Nat.le_of_ble_eq_true rfl) (Nat.le_refl _) (Nat.le_refl _) (s_X6_calmIn hs1 hM1 hc.ok.1 (fun X => (wp_af ?_)))
  refine wp_icmp_eq (tgt := 790) dL_law_634 (by decide) (fun hcm => ?_) (fun hcm => absurd rfl hcm)
  exact hK _ _ (Inv.kp hM hrc hpl f1 c1 (VM.u237 _ _))

