/-! THE LAW: what would be: the best period -/
/-- the least of the best among the periods behind p, of 60 -/
def BI (f : Nat → Int32) (p : Nat) (v w : Int32) : Prop := (p = 60 ∧ v = 0 ∧ w = -1) ∨ (p < 60 ∧ ∃ b, p < b ∧ b ≤ 60 ∧ v = nI b ∧ w = f b ∧ (∀ i, p < i → i ≤ 60 → f i ≤ f b) ∧ ∀ i, p < i → i < b → f i < f b)
theorem i32_ltle {x y z : Int32} (h1 : x < y) (h2 : y ≤ z) : x < z := by
  rw [Int32.lt_iff_toInt_lt] at *
  rw [Int32.le_iff_toInt_le] at h2
  omega
theorem BI.new {f : Nat → Int32} {p : Nat} {v w : Int32} (h : BI f (p + 1) v w) (hp : p < 60) (hw : w ≤ f (p + 1)) : BI f p (nI (p + 1)) (f (p + 1)) := by
  refine Or.inr ⟨hp, p + 1, by omega, by omega, rfl, rfl, fun i h1 h2 => ?_, fun i h1 h2 => by omega⟩
  by_cases e : i = p + 1
  · rw [e]; exact Int32.le_refl _
  · rcases h with ⟨h, -⟩ | ⟨-, b, b1, b2, -, rfl, b3, -⟩
    · omega
    · exact i32_tr (b3 i (by omega) h2) hw
theorem BI.old {f : Nat → Int32} {p : Nat} {v w : Int32} (h : BI f (p + 1) v w) (hp : p < 60) (h0 : 0 ≤ f (p + 1)) (hw : ¬ w ≤ f (p + 1)) : BI f p v w := by
  rcases h with ⟨-, -, rfl⟩ | ⟨-, b, b1, b2, rfl, rfl, b3, b4⟩
  · exact absurd (i32_tr (by decide) h0) hw
  · refine Or.inr ⟨hp, b, by omega, b2, rfl, rfl, fun i h1 h2 => ?_, fun i h1 h2 => ?_⟩
    · by_cases e : i = p + 1
      · rw [e]; exact i32_lt (Int32.not_le.mp hw)
      · exact b3 i (by omega) h2
    · by_cases e : i = p + 1
      · rw [e]; exact Int32.not_le.mp hw
      · exact b4 i (by omega) h2
theorem bpN_at {np ng k c m : Nat} {sg f : Nat → Int32} (hf : ∀ p, f p = pkN np ng c (up sg (86 + 6 * k + 3) (nI p)) m) : ∀ p, ∃ b, 1 ≤ b ∧ b ≤ p + 1 ∧ (bpN np ng k c m sg (p + 1)).1 = nI b ∧ (bpN np ng k c m sg (p + 1)).2 = f b ∧ (∀ i, 1 ≤ i → i ≤ p + 1 → f i ≤ f b) ∧ ∀ i, 1 ≤ i → i < b → f i < f b
  | 0 => by
    have h0 : ¬ pkN np ng c (up sg (86 + 6 * k + 3) (nI (0 + 1))) m ≤ (bpN np ng k c m sg 0).2 := fun h => absurd (i32_tr (pk_ge _ _ _ _ _) h) (by rw [bpN]; decide)
    refine ⟨1, by omega, by omega, by rw [bpN, if_neg h0], by rw [bpN, if_neg h0, hf], fun i h1 h2 => ?_, fun i h1 h2 => by omega⟩
    rw [show i = 1 by omega]
    exact Int32.le_refl _
  | p + 1 => by
    obtain ⟨b, b1, b2, b3, b4, b5, b6⟩ := bpN_at hf p
    by_cases h : f (p + 1 + 1) ≤ f b
    · have h' := h
      rw [hf, ← b4] at h
      refine ⟨b, b1, by omega, by rw [bpN, if_pos h]; exact b3, by rw [bpN, if_pos h]; exact b4, fun i h1 h2 => ?_, b6⟩
      by_cases e : i = p + 1 + 1
      · rw [e]; exact h'
      · exact b5 i h1 (by omega)
    · have h' := h
      rw [hf, ← b4] at h
      refine ⟨p + 1 + 1, by omega, Nat.le_refl _, by rw [bpN, if_neg h], by rw [bpN, if_neg h, hf], fun i h1 h2 => ?_, fun i h1 h2 => ?_⟩
      · by_cases e : i = p + 1 + 1
        · rw [e]; exact Int32.le_refl _
        · exact i32_tr (b5 i h1 (by omega)) (i32_lt (Int32.not_le.mp h'))
      · rcases Nat.lt_or_ge i b with g | g
        · exact i32_ltle (b6 i h1 g) (i32_lt (Int32.not_le.mp h'))
        · have := b5 i h1 (by omega)
          have q := Int32.not_le.mp h'
          rw [Int32.lt_iff_toInt_lt] at *
          rw [Int32.le_iff_toInt_le] at this
          omega
theorem BI.end {np ng k c m : Nat} {sg f : Nat → Int32} {v w : Int32} (hf : ∀ p, f p = pkN np ng c (up sg (86 + 6 * k + 3) (nI p)) m) (h : BI f 0 v w) : (bpN np ng k c m sg 60).1 = v ∧ (bpN np ng k c m sg 60).2 = w := by
  obtain ⟨b, b1, b2, b3, b4, b5, b6⟩ := bpN_at hf 59
  rcases h with ⟨h, -⟩ | ⟨-, e, e1, e2, rfl, rfl, e3, e4⟩
  · omega
  · have hbe : b = e := by
      rcases Nat.lt_trichotomy b e with g | g | g
      · exact absurd (b5 e (by omega) (by omega)) (Int32.not_le.mpr (e4 b (by omega) g))
      · exact g
      · exact absurd (e3 b (by omega) (by omega)) (Int32.not_le.mpr (b6 e (by omega) g))
    subst hbe
    exact ⟨b3, b4⟩
section
variable {γ : Gm} {l : Launch} {M : Mm} {R : Rm} {K : KT} {sg tx F : Nat → Int32} {rc pl : Nat} {hs S : Nat → Nat → Int32}
theorem s_bp {k c m : Nat} {z : Int32} (h : IC M R sg rc hs F S tx pl) (hk : k < nP sg) (hc : c < 40) (h1 : 1 ≤ m) (h2 : m < 100) (hz : 0 ≤ z ∧ z ≤ 1) (hK : ∀ M1, IC M1 R sg rc hs F S tx pl → FC M M1 R R → K (some (.int (if z = 0 then (bpN (nP sg) (nG sg) k c m sg 60).1 else (bpN (nP sg) (nG sg) k c m sg 60).2))) 247 M1 R) : CL γ l mX5_bestPeriod 5 247 247 [.ref 8, .int (nI k), .int (nI c), .int (nI m), .int z] M R K := by
  have h6 := h.ok.p6
  have hm : 1 ≤ nI m ∧ nI m ≤ 99 := ⟨(nI_leI (a := 1) (by omega) (by omega)).mpr h1, (nI_leI (b := 99) (by omega) (by omega)).mpr (by omega)⟩
  refine s_X5_bestPeriod h (fun hn => absurd ⟨⟨nI_pos' (by omega), (nI_ltI (by omega) (by omega)).mpr hk⟩, nI_pos' (by omega), (nI_leI (by omega) (by decide)).mpr (show c ≤ 39 by omega)⟩ hn) (fun _ hn => absurd ⟨hm, hz⟩ hn) (fun k2 c2 m2 a1 a2 a3 e1 e2 e3 _ M1 c1 f1 => ?_)
  obtain rfl := (nI_eq (by omega) (by omega)).mp e1
  obtain rfl := (nI_eq (by omega) (by omega)).mp e2
  obtain rfl := (nI_eq (by omega) (by omega)).mp e3
  exact hK M1 c1 f1
end
set_option maxRecDepth 100000 in
set_option maxHeartbeats 4000000 in
theorem wd_520 {γ : Gm} {l : Launch} {M : Mm} {R : Rm} {K : KT} {x : Int32} {sg tx F : Nat → Int32} {rc pl : Nat} {hs S : Nat → Nat → Int32} {t13 t14 t15 t16 t18 t21 t22 t23 : Option Value} {c rk st : Nat} {v19 v20 : Int32} (hc : IC M R sg rc hs F S tx pl) (hl : LT M 234 238 (nP sg) sg) (hq4 : M 235 4 = nI (nP sg)) (hc4 : c < 40) (hrk : rk = (lowN (x >>> ((9 : Int32) &&& 31)) (nP sg))) (hrk0 : rk < nP sg) (h1 : 1 ≤ st) (h2 : st < 100) (hB : BI (fun p => pkN (nP sg) (nG sg) c (up sg (86 + 6 * rk + 3) (nI p)) st) 0 v19 v20) (kk : ∀ M1, IC M1 R sg rc hs F S tx pl → (∀ a, 235 ≤ a → a < 242 → M1 a = M a) → K (some (.int 1)) 247 M1 R)  : WP γ l mL_would 7 247 247 520 [some (.ref 8), some (.int x), some (.ref 235), some (.ref 236), some (.ref 237), some (.ref 238), some (.ref 239), some (.ref 242), some (.ref 243), some (.ref 244), some (.ref 245), some (.ref 246), some (.int (nI c)), t13, t14, t15, t16, some (.int (nI st)), t18, some (.int v19), some (.int v20), t21, t22, t23] [] 247 M R K := by
  have h6 := hc.ok.p6
  have hlq := hrk0
  have hend := BI.end (fun _ => rfl) hB
  refine wp_drop [some (.ref 8), some (.int x), some (.ref 235), some (.ref 236), some (.ref 237), some (.ref 238), some (.ref 239), some (.ref 242), some (.ref 243), some (.ref 244), some (.ref 245), some (.ref 246), some (.int (nI c)), none, none, none, none, some (.int (nI st)), none, some (.int v19), some (.int v20), none, none, none] (by simp [leL]) ?_
  refine wp_iload_n dL_would_520 rfl ?_
  refine wp_bipush (v := 9) dL_would_521 (by decide) ?_
  refine wp_ishr dL_would_523 ?_
  refine wp_aload_n dL_would_524 rfl ?_
  refine wp_iconst (v := 4) dL_would_525 (by decide) ?_
  refine wp_iadn (i := 4) (v := nI (nP sg)) rfl tA_235 (Nat.le_of_ble_eq_true rfl) (by rw [lA_235]; omega) (Nat.le_of_ble_eq_true rfl) dL_would_526 (hq4) ?_
  refine wp_cS2 (z := mL_low) (n' := 247) kL_47 dL_would_527 (Nat.le_of_ble_eq_true rfl) (Nat.le_of_ble_eq_true rfl) (Nat.le_of_ble_eq_true rfl) (Nat.le_refl _) (Nat.le_refl _) (s_L_low (n := nP sg) (by omega) (by omega) (wp_af ?_))
  refine wp_top (z := nI rk) (by rw [hrk]) ?_
  refine wp_istore (L' := [some (.ref 8), some (.int x), some (.ref 235), some (.ref 236), some (.ref 237), some (.ref 238), some (.ref 239), some (.ref 242), some (.ref 243), some (.ref 244), some (.ref 245), some (.ref 246), some (.int (nI c)), none, none, none, some (.int (nI rk)), some (.int (nI st)), none, some (.int v19), some (.int v20), none, none, none]) dL_would_530 (by decide) rfl ?_
  refine wp_aload_n dL_would_532 rfl ?_
  refine wp_iload dL_would_533 rfl ?_
  refine wp_iload dL_would_535 rfl ?_
  refine wp_iload dL_would_537 rfl ?_
  refine wp_iconst (v := 0) dL_would_539 (by decide) ?_
  refine wp_cV4 (z := mX5_bestPeriod) (n' := 247) kL_65 dL_would_540 (Nat.le_of_ble_eq_true rfl) (Nat.le_of_ble_eq_true rfl) tA_8 (Nat.le_of_ble_eq_true rfl) (Nat.le_of_ble_eq_true rfl) (Nat.le_refl _) (Nat.le_refl _) (s_bp hc hrk0 hc4 h1 h2 (by decide) (fun M3 c3 f3 => (wp_af ?_)))
  refine wp_top (z := v19) hend.1 ?_
  refine wp_iload dL_would_543 rfl ?_
  refine wp_icmp_ne (tgt := 568) dL_would_545 (by decide) (fun h545 => absurd rfl h545) (fun h545 => ?_)
  refine wp_aload_n dL_would_548 rfl ?_
  refine wp_iload dL_would_549 rfl ?_
  refine wp_iload dL_would_551 rfl ?_
  refine wp_iload dL_would_553 rfl ?_
  refine wp_iconst (v := 1) dL_would_555 (by decide) ?_
  refine wp_cV4 (z := mX5_bestPeriod) (n' := 247) kL_65 dL_would_556 (Nat.le_of_ble_eq_true rfl) (Nat.le_of_ble_eq_true rfl) tA_8 (Nat.le_of_ble_eq_true rfl) (Nat.le_of_ble_eq_true rfl) (Nat.le_refl _) (Nat.le_refl _) (s_bp c3 hrk0 hc4 h1 h2 (by decide) (fun M4 c4 f4 => (wp_af ?_)))
  refine wp_top (z := v20) hend.2 ?_
  refine wp_iload dL_would_559 rfl ?_
  refine wp_icmp_ne (tgt := 568) dL_would_561 (by decide) (fun h561 => absurd rfl h561) (fun h561 => ?_)
  refine wp_iconst (v := 1) dL_would_564 (by decide) ?_
  refine wp_goto (tgt := 569) dL_would_565 (by decide) ?_
  exact wp_iret dL_would_569 rfl rfl rfl (kk M4 c4 (fun a a1 a2 => by rw [(f4 a a1).1, (f3 a a1).1]))

set_option maxRecDepth 100000 in
set_option maxHeartbeats 4000000 in
theorem wd_376 {γ : Gm} {l : Launch} {M : Mm} {R : Rm} {K : KT} {t13 t14 t15 t16 t19 t20 t21 t22 t23 : Option Value} {x : Int32} {sg tx F : Nat → Int32} {rc pl : Nat} {hs S : Nat → Nat → Int32} {c rk st e k2 : Nat} (hc : IC M R sg rc hs F S tx pl) (hl : LT M 234 238 (nP sg) sg) (hq4 : M 235 4 = nI (nP sg)) (hc4 : c < 40) (hrk : rk = (lowN (x >>> ((9 : Int32) &&& 31)) (nP sg))) (hrk0 : rk < nP sg) (h1 : 1 ≤ st) (h2 : st < 100) (he : e < 36) (hk2 : k2 < 6) (hpe : M 238 e = nI (k2 + 1)) (hce : cnt (M 238) e = rk) (kk : ∀ M1, IC M1 R sg rc hs F S tx pl → (∀ a, 235 ≤ a → a < 242 → M1 a = M a) → K (some (.int 1)) 247 M1 R)  : WP γ l mL_would 7 247 247 376 [some (.ref 8), some (.int x), some (.ref 235), some (.ref 236), some (.ref 237), some (.ref 238), some (.ref 239), some (.ref 242), some (.ref 243), some (.ref 244), some (.ref 245), some (.ref 246), some (.int (nI c)), t13, t14, t15, t16, some (.int (nI st)), some (.int (nI k2)), t19, t20, t21, t22, t23] [] 247 M R K := by
  have h6 := hc.ok.p6
  have hS : SA 241 238 := Or.inr (Or.inl ⟨rfl, rfl⟩)
  have loop : ∀ (p : Nat) (v19 v20 : Int32) (M2 : Mm) (t16 t22 t23 : Option Value), p ≤ 60 → BI (fun p => pkN (nP sg) (nG sg) c (up sg (86 + 6 * rk + 3) (nI p)) st) p v19 v20 → (∀ a, a < 242 → M2 a = M a) → WP γ l mL_would 7 247 247 386 [some (.ref 8), some (.int x), some (.ref 235), some (.ref 236), some (.ref 237), some (.ref 238), some (.ref 239), some (.ref 242), some (.ref 243), some (.ref 244), some (.ref 245), some (.ref 246), some (.int (nI c)), none, none, none, t16, some (.int (nI st)), some (.int (nI k2)), some (.int v19), some (.int v20), some (.int (nI p)), t22, t23] [] 247 M2 R K := by
    intro p
    induction p with
    | zero =>
      intro v19 v20 M2 t16 t22 t23 hp hB hF
      refine wp_drop [some (.ref 8), some (.int x), some (.ref 235), some (.ref 236), some (.ref 237), some (.ref 238), some (.ref 239), some (.ref 242), some (.ref 243), some (.ref 244), some (.ref 245), some (.ref 246), some (.int (nI c)), none, none, none, none, some (.int (nI st)), some (.int (nI k2)), some (.int v19), some (.int v20), some (.int (nI 0)), none, none] (by simp [leL]) ?_
      refine wp_iload dL_would_386 rfl ?_
      refine wp_ifN_le (a := 0) (tgt := 520) dL_would_388 (by decide) rfl (by omega) (fun _ => ?_) (fun h => absurd h (by decide))
      exact wd_520 (hc.out fun a h => hF a (by omega)) (hl.fr (fun j _ => by rw [hF 235 (by omega)]) (hF 236 (by omega)) (hF 237 (by omega)) (hF 238 (by omega)) (hF 239 (by omega))) (by rw [hF 235 (by omega)]; exact hq4) hc4 hrk hrk0 h1 h2 hB (fun M3 c3 f3 => kk M3 c3 fun a a1 a2 => by rw [f3 a a1 a2, hF a a2])
    | succ p ih =>
      intro v19 v20 M2 t16 t22 t23 hp hB hF
      have hl2 : LT M2 234 238 (nP sg) sg := hl.fr (fun j _ => by rw [hF 235 (by omega)]) (hF 236 (by omega)) (hF 237 (by omega)) (hF 238 (by omega)) (hF 239 (by omega))
      have hop := hc.ok.1.period hrk0 (p := p + 1) (by omega) (by omega)
      have e238 : cpA M2 238 = M 238 := by rw [cpA_fr M2 (by omega), hF 238 (by omega)]
      have hlp : LT (u2 (cpA M2) 246 (5 * k2 + 2) (nI (p + 1))) 241 238 (nP sg) (up sg (86 + 6 * rk + 3) (nI (p + 1))) := by
        have h := (cpA_lt hl2).urec hS he hk2 (by rw [e238]; exact hpe) (i := 2) (by omega) (nI (p + 1))
        rw [e238, hce] at h
        exact h
      have hFp : ∀ a, a < 242 → (u2 (cpA M2) 246 (5 * k2 + 2) (nI (p + 1))) a = M a := fun a ha => by rw [u2_n _ _ _ (by omega), cpA_fr M2 ha, hF a ha]
      have s496 : ∀ (v22 : Int32) (M3 : Mm) (t16 t23 : Option Value), v22 = pkN (nP sg) (nG sg) c (up sg (86 + 6 * rk + 3) (nI (p + 1))) st → (∀ a, a < 242 → M3 a = M a) → WP γ l mL_would 7 247 247 496 [some (.ref 8), some (.int x), some (.ref 235), some (.ref 236), some (.ref 237), some (.ref 238), some (.ref 239), some (.ref 242), some (.ref 243), some (.ref 244), some (.ref 245), some (.ref 246), some (.int (nI c)), none, none, none, t16, some (.int (nI st)), some (.int (nI k2)), some (.int v19), some (.int v20), some (.int (nI (p + 1))), some (.int v22), t23] [] 247 M3 R K := by
        intro v22 M3 t16 t23 hv hF3
        refine wp_drop [some (.ref 8), some (.int x), some (.ref 235), some (.ref 236), some (.ref 237), some (.ref 238), some (.ref 239), some (.ref 242), some (.ref 243), some (.ref 244), some (.ref 245), some (.ref 246), some (.int (nI c)), none, none, none, none, some (.int (nI st)), some (.int (nI k2)), some (.int v19), some (.int v20), some (.int (nI (p + 1))), some (.int v22), none] (by simp [leL]) ?_
        refine wp_iload dL_would_496 rfl ?_
        refine wp_iload dL_would_498 rfl ?_
        refine wp_icmp_ge (tgt := 506) dL_would_500 (by decide) (fun h500 => ?_) (fun h500 => ?_)
        · refine wp_iload dL_would_506 rfl ?_
          refine wp_istore (L' := [some (.ref 8), some (.int x), some (.ref 235), some (.ref 236), some (.ref 237), some (.ref 238), some (.ref 239), some (.ref 242), some (.ref 243), some (.ref 244), some (.ref 245), some (.ref 246), some (.int (nI c)), none, none, none, none, some (.int (nI st)), some (.int (nI k2)), some (.int v19), some (.int v22), some (.int (nI (p + 1))), some (.int v22), none]) dL_would_508 (by decide) rfl ?_
          refine wp_iload dL_would_510 rfl ?_
          refine wp_istore (L' := [some (.ref 8), some (.int x), some (.ref 235), some (.ref 236), some (.ref 237), some (.ref 238), some (.ref 239), some (.ref 242), some (.ref 243), some (.ref 244), some (.ref 245), some (.ref 246), some (.int (nI c)), none, none, none, none, some (.int (nI st)), some (.int (nI k2)), some (.int (nI (p + 1))), some (.int v22), some (.int (nI (p + 1))), some (.int v22), none]) dL_would_512 (by decide) rfl ?_
          refine wp_iinc (v := nI ((p + 1) - 1)) (L' := [some (.ref 8), some (.int x), some (.ref 235), some (.ref 236), some (.ref 237), some (.ref 238), some (.ref 239), some (.ref 242), some (.ref 243), some (.ref 244), some (.ref 245), some (.ref 246), some (.int (nI c)), none, none, none, none, some (.int (nI st)), some (.int (nI k2)), some (.int (nI (p + 1))), some (.int v22), some (.int (nI ((p + 1) - 1))), some (.int v22), none]) dL_would_514 (by decide) rfl (dec_1 (by omega)) rfl ?_
          refine wp_goto (tgt := 386) dL_would_517 (by decide) ?_
          exact ih _ _ M3 _ _ _ (by omega) (by
            first
              | (rw [hv] at h500 ⊢; exact hB.new (by omega) h500)
              | (rw [hv] at h500; exact hB.old (by omega) (pk_ge _ _ _ _ _) h500)) hF3
        · refine wp_goto (tgt := 514) dL_would_503 (by decide) ?_
          refine wp_iinc (v := nI ((p + 1) - 1)) (L' := [some (.ref 8), some (.int x), some (.ref 235), some (.ref 236), some (.ref 237), some (.ref 238), some (.ref 239), some (.ref 242), some (.ref 243), some (.ref 244), some (.ref 245), some (.ref 246), some (.int (nI c)), none, none, none, none, some (.int (nI st)), some (.int (nI k2)), some (.int v19), some (.int v20), some (.int (nI ((p + 1) - 1))), some (.int v22), none]) dL_would_514 (by decide) rfl (dec_1 (by omega)) rfl ?_
          refine wp_goto (tgt := 386) dL_would_517 (by decide) ?_
          exact ih _ _ M3 _ _ _ (by omega) (by
            first
              | (rw [hv] at h500 ⊢; exact hB.new (by omega) h500)
              | (rw [hv] at h500; exact hB.old (by omega) (pk_ge _ _ _ _ _) h500)) hF3
      have inner : ∀ (q k : Nat) (v22 : Int32) (M3 : Mm) (t16 : Option Value), q + k = st → v22 = pkN (nP sg) (nG sg) c (up sg (86 + 6 * rk + 3) (nI (p + 1))) k → LT M3 241 238 (nP sg) (psF (nP sg) (nG sg) (up sg (86 + 6 * rk + 3) (nI (p + 1))) k) → (∀ a, a < 242 → M3 a = M a) → WP γ l mL_would 7 247 247 441 [some (.ref 8), some (.int x), some (.ref 235), some (.ref 236), some (.ref 237), some (.ref 238), some (.ref 239), some (.ref 242), some (.ref 243), some (.ref 244), some (.ref 245), some (.ref 246), some (.int (nI c)), none, none, none, t16, some (.int (nI st)), some (.int (nI k2)), some (.int v19), some (.int v20), some (.int (nI (p + 1))), some (.int v22), some (.int (nI k))] [] 247 M3 R K := by
        intro q
        induction q with
        | zero =>
          intro k v22 M3 t16 hq hv hl3 hF3
          obtain rfl : k = st := by omega
          refine wp_drop [some (.ref 8), some (.int x), some (.ref 235), some (.ref 236), some (.ref 237), some (.ref 238), some (.ref 239), some (.ref 242), some (.ref 243), some (.ref 244), some (.ref 245), some (.ref 246), some (.int (nI c)), none, none, none, none, some (.int (nI k)), some (.int (nI k2)), some (.int v19), some (.int v20), some (.int (nI (p + 1))), some (.int v22), some (.int (nI k))] (by simp [leL]) ?_
          refine wp_iload dL_would_441 rfl ?_
          refine wp_iload dL_would_443 rfl ?_
          refine wp_icN_ge (a := k) (b := k) (tgt := 496) dL_would_445 (by decide) rfl rfl (by omega) (by omega) (fun h445 => ?_) (fun h445 => absurd h445 (by omega))
          exact s496 v22 M3 _ _ hv hF3
        | succ q ih2 =>
          intro k v22 M3 t16 hq hv hl3 hF3
          refine wp_drop [some (.ref 8), some (.int x), some (.ref 235), some (.ref 236), some (.ref 237), some (.ref 238), some (.ref 239), some (.ref 242), some (.ref 243), some (.ref 244), some (.ref 245), some (.ref 246), some (.int (nI c)), none, none, none, none, some (.int (nI st)), some (.int (nI k2)), some (.int v19), some (.int v20), some (.int (nI (p + 1))), some (.int v22), some (.int (nI k))] (by simp [leL]) ?_
          refine wp_iload dL_would_441 rfl ?_
          refine wp_iload dL_would_443 rfl ?_
          refine wp_icN_ge (a := k) (b := st) (tgt := 496) dL_would_445 (by decide) rfl rfl (by omega) (by omega) (fun h445 => absurd h445 (by omega)) (fun h445 => ?_)
          refine wp_aload dL_would_448 rfl ?_
          refine wp_aload dL_would_450 rfl ?_
          refine wp_aload dL_would_452 rfl ?_
          refine wp_aload dL_would_454 rfl ?_
          refine wp_aload dL_would_456 rfl ?_
          refine wp_cS5 (z := mL_step) (n' := 247) kL_54 dL_would_458 (Nat.le_of_ble_eq_true rfl) (Nat.le_of_ble_eq_true rfl) (Nat.le_of_ble_eq_true rfl) (Nat.le_refl _) (Nat.le_refl _) (s_L_step hS hl3 (hop.kpsF k) (fun M5 f5 l5 => (wp_af ?_)))
          have l5 : LT M5 241 238 (nP sg) (psF (nP sg) (nG sg) (up sg (86 + 6 * rk + 3) (nI (p + 1))) (k + 1)) := l5
          refine wp_pop dL_would_461 rfl ?_
          refine wp_aload dL_would_462 rfl ?_
          refine wp_iload dL_would_464 rfl ?_
          refine wp_iadn (i := c) rfl tA_243 (Nat.le_of_ble_eq_true rfl) (by rw [lA_243]; omega) (Nat.le_of_ble_eq_true rfl) dL_would_466 (l5.l (by omega)) ?_
          refine wp_cS1 (z := mL_abs) (n' := 247) kL_10 dL_would_467 (Nat.le_of_ble_eq_true rfl) (Nat.le_of_ble_eq_true rfl) (Nat.le_of_ble_eq_true rfl) (Nat.le_refl _) (Nat.le_refl _) (s_L_abs (wp_af ?_))
          refine wp_iload dL_would_470 rfl ?_
          refine wp_icmp_le (tgt := 486) dL_would_472 (by decide) (fun h472 => ?_) (fun h472 => ?_)
          · refine wp_iload dL_would_486 rfl ?_
            refine wp_istore (L' := [some (.ref 8), some (.int x), some (.ref 235), some (.ref 236), some (.ref 237), some (.ref 238), some (.ref 239), some (.ref 242), some (.ref 243), some (.ref 244), some (.ref 245), some (.ref 246), some (.int (nI c)), none, none, none, none, some (.int (nI st)), some (.int (nI k2)), some (.int v19), some (.int v20), some (.int (nI (p + 1))), some (.int v22), some (.int (nI k))]) dL_would_488 (by decide) rfl ?_
            refine wp_iinc (v := nI (k + 1)) (L' := [some (.ref 8), some (.int x), some (.ref 235), some (.ref 236), some (.ref 237), some (.ref 238), some (.ref 239), some (.ref 242), some (.ref 243), some (.ref 244), some (.ref 245), some (.ref 246), some (.int (nI c)), none, none, none, none, some (.int (nI st)), some (.int (nI k2)), some (.int v19), some (.int v20), some (.int (nI (p + 1))), some (.int v22), some (.int (nI (k + 1)))]) dL_would_490 (by decide) rfl (inc_1 _) rfl ?_
            refine wp_goto (tgt := 441) dL_would_493 (by decide) ?_
            exact ih2 (k + 1) _ M5 _ (by omega) (by
              rw [pkN, ← hv]
              first
                | rw [if_pos h472]
                | rw [if_neg h472]) l5 (fun a ha => by rw [f5.1 a (by omega) (by omega) (by omega) (by omega)]; exact hF3 a ha)
          · refine wp_aload dL_would_475 rfl ?_
            refine wp_iload dL_would_477 rfl ?_
            refine wp_iadn (i := c) rfl tA_243 (Nat.le_of_ble_eq_true rfl) (by rw [lA_243]; omega) (Nat.le_of_ble_eq_true rfl) dL_would_479 (l5.l (by omega)) ?_
            refine wp_cS1 (z := mL_abs) (n' := 247) kL_10 dL_would_480 (Nat.le_of_ble_eq_true rfl) (Nat.le_of_ble_eq_true rfl) (Nat.le_of_ble_eq_true rfl) (Nat.le_refl _) (Nat.le_refl _) (s_L_abs (wp_af ?_))
            refine wp_goto (tgt := 488) dL_would_483 (by decide) ?_
            refine wp_istore (L' := [some (.ref 8), some (.int x), some (.ref 235), some (.ref 236), some (.ref 237), some (.ref 238), some (.ref 239), some (.ref 242), some (.ref 243), some (.ref 244), some (.ref 245), some (.ref 246), some (.int (nI c)), none, none, none, none, some (.int (nI st)), some (.int (nI k2)), some (.int v19), some (.int v20), some (.int (nI (p + 1))), some (.int _), some (.int (nI k))]) dL_would_488 (by decide) rfl ?_
            refine wp_iinc (v := nI (k + 1)) (L' := [some (.ref 8), some (.int x), some (.ref 235), some (.ref 236), some (.ref 237), some (.ref 238), some (.ref 239), some (.ref 242), some (.ref 243), some (.ref 244), some (.ref 245), some (.ref 246), some (.int (nI c)), none, none, none, none, some (.int (nI st)), some (.int (nI k2)), some (.int v19), some (.int v20), some (.int (nI (p + 1))), some (.int _), some (.int (nI (k + 1)))]) dL_would_490 (by decide) rfl (inc_1 _) rfl ?_
            refine wp_goto (tgt := 441) dL_would_493 (by decide) ?_
            exact ih2 (k + 1) _ M5 _ (by omega) (by
              rw [pkN, ← hv]
              first
                | rw [if_pos h472]
                | rw [if_neg h472]) l5 (fun a ha => by rw [f5.1 a (by omega) (by omega) (by omega) (by omega)]; exact hF3 a ha)
      refine wp_drop [some (.ref 8), some (.int x), some (.ref 235), some (.ref 236), some (.ref 237), some (.ref 238), some (.ref 239), some (.ref 242), some (.ref 243), some (.ref 244), some (.ref 245), some (.ref 246), some (.int (nI c)), none, none, none, none, some (.int (nI st)), some (.int (nI k2)), some (.int v19), some (.int v20), some (.int (nI (p + 1))), none, none] (by simp [leL]) ?_
      refine wp_iload dL_would_386 rfl ?_
      refine wp_ifN_le (a := (p + 1)) (tgt := 520) dL_would_388 (by decide) rfl (by omega) (fun h388 => absurd h388 (by omega)) (fun h388 => ?_)
      refine wp_aload_n dL_would_391 rfl ?_
      refine wp_aload dL_would_392 rfl ?_
      refine wp_iconst (v := 5) dL_would_394 (by decide) ?_
      refine wp_cS3 (z := mL_copy) (n' := 247) kL_50 dL_would_395 (Nat.le_of_ble_eq_true rfl) (Nat.le_of_ble_eq_true rfl) (Nat.le_of_ble_eq_true rfl) (Nat.le_refl _) (Nat.le_refl _) (s_L_copy (m := 5) ar_235 ar_242 (by decide) (Nat.le_refl _) (Nat.le_refl _) (by decide) (wp_af0 ?_))
      refine wp_aload_n dL_would_398 rfl ?_
      refine wp_aload dL_would_399 rfl ?_
      refine wp_bipush (v := 40) dL_would_401 (by decide) ?_
      refine wp_cS3 (z := mL_copy) (n' := 247) kL_50 dL_would_403 (Nat.le_of_ble_eq_true rfl) (Nat.le_of_ble_eq_true rfl) (Nat.le_of_ble_eq_true rfl) (Nat.le_refl _) (Nat.le_refl _) (s_L_copy (m := 40) ar_236 ar_243 (by decide) (Nat.le_refl _) (Nat.le_refl _) (by decide) (wp_af0 ?_))
      refine wp_aload dL_would_406 rfl ?_
      refine wp_aload dL_would_408 rfl ?_
      refine wp_bipush (v := 40) dL_would_410 (by decide) ?_
      refine wp_cS3 (z := mL_copy) (n' := 247) kL_50 dL_would_412 (Nat.le_of_ble_eq_true rfl) (Nat.le_of_ble_eq_true rfl) (Nat.le_of_ble_eq_true rfl) (Nat.le_refl _) (Nat.le_refl _) (s_L_copy (m := 40) ar_237 ar_244 (by decide) (Nat.le_refl _) (Nat.le_refl _) (by decide) (wp_af0 ?_))
      refine wp_aload dL_would_415 rfl ?_
      refine wp_aload dL_would_417 rfl ?_
      refine wp_bipush (v := 30) dL_would_419 (by decide) ?_
      refine wp_cS3 (z := mL_copy) (n' := 247) kL_50 dL_would_421 (Nat.le_of_ble_eq_true rfl) (Nat.le_of_ble_eq_true rfl) (Nat.le_of_ble_eq_true rfl) (Nat.le_refl _) (Nat.le_refl _) (s_L_copy (m := 30) ar_239 ar_246 (by decide) (Nat.le_refl _) (Nat.le_refl _) (by decide) (wp_af0 ?_))
      refine wp_mem (M' := cpA M2) rfl ?_
      refine wp_aload dL_would_424 rfl ?_
      refine wp_iconst (v := 5) dL_would_426 (by decide) ?_
      refine wp_iload dL_would_427 rfl ?_
      refine wp_imul dL_would_429 ?_
      refine wp_iconst (v := 2) dL_would_430 (by decide) ?_
      refine wp_iadd dL_would_431 ?_
      refine wp_iload dL_would_432 rfl ?_
      refine wp_iast (i := ((5 * k2) + 2)) (ix_add (ix_mul rfl rfl) rfl) tA_246 (Nat.le_of_ble_eq_true rfl) (by rw [lA_246]; omega) (Nat.le_of_ble_eq_true rfl) dL_would_434 ?_
      refine wp_iconst (v := 0) dL_would_435 (by decide) ?_
      refine wp_istore (L' := [some (.ref 8), some (.int x), some (.ref 235), some (.ref 236), some (.ref 237), some (.ref 238), some (.ref 239), some (.ref 242), some (.ref 243), some (.ref 244), some (.ref 245), some (.ref 246), some (.int (nI c)), none, none, none, none, some (.int (nI st)), some (.int (nI k2)), some (.int v19), some (.int v20), some (.int (nI (p + 1))), some (.int _), none]) dL_would_436 (by decide) rfl ?_
      refine wp_iconst (v := 0) dL_would_438 (by decide) ?_
      refine wp_istore (L' := [some (.ref 8), some (.int x), some (.ref 235), some (.ref 236), some (.ref 237), some (.ref 238), some (.ref 239), some (.ref 242), some (.ref 243), some (.ref 244), some (.ref 245), some (.ref 246), some (.int (nI c)), none, none, none, none, some (.int (nI st)), some (.int (nI k2)), some (.int v19), some (.int v20), some (.int (nI (p + 1))), some (.int _), some (.int _)]) dL_would_439 (by decide) rfl ?_
      exact inner st 0 0 _ _ (by omega) rfl hlp hFp
  refine wp_drop [some (.ref 8), some (.int x), some (.ref 235), some (.ref 236), some (.ref 237), some (.ref 238), some (.ref 239), some (.ref 242), some (.ref 243), some (.ref 244), some (.ref 245), some (.ref 246), some (.int (nI c)), none, none, none, none, some (.int (nI st)), some (.int (nI k2)), none, none, none, none, none] (by simp [leL]) ?_
  refine wp_iconst (v := 0) dL_would_376 (by decide) ?_
  refine wp_istore (L' := [some (.ref 8), some (.int x), some (.ref 235), some (.ref 236), some (.ref 237), some (.ref 238), some (.ref 239), some (.ref 242), some (.ref 243), some (.ref 244), some (.ref 245), some (.ref 246), some (.int (nI c)), none, none, none, none, some (.int (nI st)), some (.int (nI k2)), some (.int _), none, none, none, none]) dL_would_377 (by decide) rfl ?_
  refine wp_iconst (v := (-1)) dL_would_379 (by decide) ?_
  refine wp_istore (L' := [some (.ref 8), some (.int x), some (.ref 235), some (.ref 236), some (.ref 237), some (.ref 238), some (.ref 239), some (.ref 242), some (.ref 243), some (.ref 244), some (.ref 245), some (.ref 246), some (.int (nI c)), none, none, none, none, some (.int (nI st)), some (.int (nI k2)), some (.int _), some (.int (-1)), none, none, none]) dL_would_380 (by decide) rfl ?_
  refine wp_bipush (v := 60) dL_would_382 (by decide) ?_
  refine wp_istore (L' := [some (.ref 8), some (.int x), some (.ref 235), some (.ref 236), some (.ref 237), some (.ref 238), some (.ref 239), some (.ref 242), some (.ref 243), some (.ref 244), some (.ref 245), some (.ref 246), some (.int (nI c)), none, none, none, none, some (.int (nI st)), some (.int (nI k2)), some (.int _), some (.int (-1)), some (.int _), none, none]) dL_would_384 (by decide) rfl ?_
  exact loop 60 _ _ M _ _ _ (Nat.le_refl _) (Or.inl ⟨rfl, rfl, rfl⟩) (fun _ _ => rfl)

set_option maxRecDepth 100000 in
set_option maxHeartbeats 4000000 in
theorem wd_329 {γ : Gm} {l : Launch} {M : Mm} {R : Rm} {K : KT} {t13 t14 t15 t18 t19 t20 t21 t22 t23 : Option Value} {x : Int32} {sg tx F : Nat → Int32} {rc pl : Nat} {hs S : Nat → Nat → Int32} {c rk st : Nat} (hc : IC M R sg rc hs F S tx pl) (hl : LT M 234 238 (nP sg) sg) (hq4 : M 235 4 = nI (nP sg)) (hc4 : c < 40) (hrk : rk = (lowN (x >>> ((9 : Int32) &&& 31)) (nP sg))) (hrk0 : rk < nP sg) (h1 : 1 ≤ st) (h2 : st < 100) (kk : ∀ M1, IC M1 R sg rc hs F S tx pl → (∀ a, 235 ≤ a → a < 242 → M1 a = M a) → K (some (.int 1)) 247 M1 R)  : WP γ l mL_would 7 247 247 329 [some (.ref 8), some (.int x), some (.ref 235), some (.ref 236), some (.ref 237), some (.ref 238), some (.ref 239), some (.ref 242), some (.ref 243), some (.ref 244), some (.ref 245), some (.ref 246), some (.int (nI c)), t13, t14, t15, some (.int (nI rk)), some (.int (nI st)), t18, t19, t20, t21, t22, t23] [] 247 M R K := by
  have h6 := hc.ok.p6
  have h36 : cnt (M 238) 36 = nP sg := hl.pl.2.2.1
  have s335 : ∀ (e k2 k : Nat) (v16 : Int32) (t20 t21 t22 t23 : Option Value), e < 36 → k2 < 6 → k ≤ 36 → M 238 e = nI (k2 + 1) → cnt (M 238) e = rk → v16 < 0 → WP γ l mL_would 7 247 247 335 [some (.ref 8), some (.int x), some (.ref 235), some (.ref 236), some (.ref 237), some (.ref 238), some (.ref 239), some (.ref 242), some (.ref 243), some (.ref 244), some (.ref 245), some (.ref 246), some (.int (nI c)), none, none, none, some (.int v16), some (.int (nI st)), some (.int (nI k2)), some (.int (nI k)), t20, t21, t22, t23] [] 247 M R K := by
    intro e k2 k v16 t20 t21 t22 t23 he hk2 hk hpe hce hv
    refine wp_drop [some (.ref 8), some (.int x), some (.ref 235), some (.ref 236), some (.ref 237), some (.ref 238), some (.ref 239), some (.ref 242), some (.ref 243), some (.ref 244), some (.ref 245), some (.ref 246), some (.int (nI c)), none, none, none, some (.int v16), some (.int (nI st)), some (.int (nI k2)), some (.int (nI k)), none, none, none, none] (by simp [leL]) ?_
    refine wp_iload dL_would_335 rfl ?_
    refine wp_bipush (v := 36) dL_would_337 (by decide) ?_
    refine wp_icN_ge (a := k) (b := 36) (tgt := 376) dL_would_339 (by decide) rfl rfl (by omega) (by omega) (fun h339 => ?_) (fun h339 => ?_)
    · exact wd_376 hc hl hq4 hc4 hrk hrk0 h1 h2 he hk2 hpe hce kk
    · refine wp_iload dL_would_342 rfl ?_
      refine wp_if_lt (tgt := 376) dL_would_344 (by decide) (fun h344 => ?_) (fun h344 => absurd hv h344)
      exact wd_376 hc hl hq4 hc4 hrk hrk0 h1 h2 he hk2 hpe hce kk
  have loop : ∀ (q k : Nat) (v18 : Int32) (t20 t21 t22 t23 : Option Value), q + k = 36 → cnt (M 238) k ≤ rk → WP γ l mL_would 7 247 247 335 [some (.ref 8), some (.int x), some (.ref 235), some (.ref 236), some (.ref 237), some (.ref 238), some (.ref 239), some (.ref 242), some (.ref 243), some (.ref 244), some (.ref 245), some (.ref 246), some (.int (nI c)), none, none, none, some (.int (nI (rk - cnt (M 238) k))), some (.int (nI st)), some (.int v18), some (.int (nI k)), t20, t21, t22, t23] [] 247 M R K := by
    intro q
    induction q with
    | zero =>
      intro k v18 t20 t21 t22 t23 hq hle
      obtain rfl : k = 36 := by omega
      exact absurd hle (by omega)
    | succ q ih =>
      intro k v18 t20 t21 t22 t23 hq hle
      have hk : k < 36 := by omega
      rcases hl.pl.at hk with hz | ⟨k2, hk2, hp⟩
      · have e1 := cnt_z hz
        refine wp_drop [some (.ref 8), some (.int x), some (.ref 235), some (.ref 236), some (.ref 237), some (.ref 238), some (.ref 239), some (.ref 242), some (.ref 243), some (.ref 244), some (.ref 245), some (.ref 246), some (.int (nI c)), none, none, none, some (.int (nI (rk - cnt (M 238) k))), some (.int (nI st)), some (.int v18), some (.int (nI k)), none, none, none, none] (by simp [leL]) ?_
        refine wp_iload dL_would_335 rfl ?_
        refine wp_bipush (v := 36) dL_would_337 (by decide) ?_
        refine wp_icN_ge (a := k) (b := 36) (tgt := 376) dL_would_339 (by decide) rfl rfl (by omega) (by omega) (fun h339 => absurd h339 (by omega)) (fun h339 => ?_)
        refine wp_iload dL_would_342 rfl ?_
        refine wp_ifN_lt (a := (rk - cnt (M 238) k)) (tgt := 376) dL_would_344 (by decide) rfl (by omega) ?_
        refine wp_aload dL_would_347 rfl ?_
        refine wp_iload dL_would_349 rfl ?_
        refine wp_iadn (i := k) (v := nI 0) rfl tA_238 (Nat.le_of_ble_eq_true rfl) (by rw [lA_238]; omega) (Nat.le_of_ble_eq_true rfl) dL_would_351 (hz) ?_
        refine wp_ifN_ne (a := 0) (tgt := 358) dL_would_352 (by decide) rfl (by omega) (fun h => absurd h (by decide)) (fun _ => ?_)
        refine wp_goto (tgt := 370) dL_would_355 (by decide) ?_
        refine wp_iinc (v := nI (k + 1)) (L' := [some (.ref 8), some (.int x), some (.ref 235), some (.ref 236), some (.ref 237), some (.ref 238), some (.ref 239), some (.ref 242), some (.ref 243), some (.ref 244), some (.ref 245), some (.ref 246), some (.int (nI c)), none, none, none, some (.int (nI (rk - cnt (M 238) k))), some (.int (nI st)), some (.int v18), some (.int (nI (k + 1))), none, none, none, none]) dL_would_370 (by decide) rfl (inc_1 _) rfl ?_
        refine wp_goto (tgt := 335) dL_would_373 (by decide) ?_
        have h := ih (k + 1) v18 none none none none (by omega) (by omega)
        rw [e1] at h
        exact h
      · have n0 : ¬ M 238 k = 0 := by rw [hp]; exact nI_s0 (by omega)
        have e1 := cnt_n n0
        by_cases hr : rk = cnt (M 238) k
        · refine wp_drop [some (.ref 8), some (.int x), some (.ref 235), some (.ref 236), some (.ref 237), some (.ref 238), some (.ref 239), some (.ref 242), some (.ref 243), some (.ref 244), some (.ref 245), some (.ref 246), some (.int (nI c)), none, none, none, some (.int (nI (rk - cnt (M 238) k))), some (.int (nI st)), some (.int v18), some (.int (nI k)), none, none, none, none] (by simp [leL]) ?_
          refine wp_iload dL_would_335 rfl ?_
          refine wp_bipush (v := 36) dL_would_337 (by decide) ?_
          refine wp_icN_ge (a := k) (b := 36) (tgt := 376) dL_would_339 (by decide) rfl rfl (by omega) (by omega) (fun h339 => absurd h339 (by omega)) (fun h339 => ?_)
          refine wp_iload dL_would_342 rfl ?_
          refine wp_if_lt (tgt := 376) dL_would_344 (by decide) (fun h344 => absurd h344 (nI_pos (by omega))) (fun h344 => ?_)
          refine wp_aload dL_would_347 rfl ?_
          refine wp_iload dL_would_349 rfl ?_
          refine wp_iadn (i := k) (v := nI (k2 + 1)) rfl tA_238 (Nat.le_of_ble_eq_true rfl) (by rw [lA_238]; omega) (Nat.le_of_ble_eq_true rfl) dL_would_351 (hp) ?_
          refine wp_ifN_ne (a := (k2 + 1)) (tgt := 358) dL_would_352 (by decide) rfl (by omega) (fun h352 => ?_) (fun h352 => absurd h352 (by omega))
          refine wp_aload dL_would_358 rfl ?_
          refine wp_iload dL_would_360 rfl ?_
          refine wp_iadn (i := k) (v := nI (k2 + 1)) rfl tA_238 (Nat.le_of_ble_eq_true rfl) (by rw [lA_238]; omega) (Nat.le_of_ble_eq_true rfl) dL_would_362 (hp) ?_
          refine wp_iconst (v := 1) dL_would_363 (by decide) ?_
          refine wp_isub dL_would_364 ?_
          refine wp_top (nI_pred k2) ?_
          refine wp_istore (L' := [some (.ref 8), some (.int x), some (.ref 235), some (.ref 236), some (.ref 237), some (.ref 238), some (.ref 239), some (.ref 242), some (.ref 243), some (.ref 244), some (.ref 245), some (.ref 246), some (.int (nI c)), none, none, none, some (.int (nI (rk - cnt (M 238) k))), some (.int (nI st)), some (.int (nI k2)), some (.int (nI k)), none, none, none, none]) dL_would_365 (by decide) rfl ?_
          refine wp_iinc (v := _) (L' := [some (.ref 8), some (.int x), some (.ref 235), some (.ref 236), some (.ref 237), some (.ref 238), some (.ref 239), some (.ref 242), some (.ref 243), some (.ref 244), some (.ref 245), some (.ref 246), some (.int (nI c)), none, none, none, some (.int _), some (.int (nI st)), some (.int (nI k2)), some (.int (nI k)), none, none, none, none]) dL_would_367 (by decide) rfl rfl rfl ?_
          refine wp_iinc (v := nI (k + 1)) (L' := [some (.ref 8), some (.int x), some (.ref 235), some (.ref 236), some (.ref 237), some (.ref 238), some (.ref 239), some (.ref 242), some (.ref 243), some (.ref 244), some (.ref 245), some (.ref 246), some (.int (nI c)), none, none, none, some (.int _), some (.int (nI st)), some (.int (nI k2)), some (.int (nI (k + 1))), none, none, none, none]) dL_would_370 (by decide) rfl (inc_1 _) rfl ?_
          refine wp_goto (tgt := 335) dL_would_373 (by decide) ?_
          exact s335 k k2 (k + 1) _ _ _ _ _ hk hk2 (by omega) hp hr.symm (by rw [hr, Nat.sub_self]; decide)
        · refine wp_drop [some (.ref 8), some (.int x), some (.ref 235), some (.ref 236), some (.ref 237), some (.ref 238), some (.ref 239), some (.ref 242), some (.ref 243), some (.ref 244), some (.ref 245), some (.ref 246), some (.int (nI c)), none, none, none, some (.int (nI (rk - cnt (M 238) k))), some (.int (nI st)), some (.int v18), some (.int (nI k)), none, none, none, none] (by simp [leL]) ?_
          refine wp_iload dL_would_335 rfl ?_
          refine wp_bipush (v := 36) dL_would_337 (by decide) ?_
          refine wp_icN_ge (a := k) (b := 36) (tgt := 376) dL_would_339 (by decide) rfl rfl (by omega) (by omega) (fun h339 => absurd h339 (by omega)) (fun h339 => ?_)
          refine wp_iload dL_would_342 rfl ?_
          refine wp_ifN_lt (a := (rk - cnt (M 238) k)) (tgt := 376) dL_would_344 (by decide) rfl (by omega) ?_
          refine wp_aload dL_would_347 rfl ?_
          refine wp_iload dL_would_349 rfl ?_
          refine wp_iadn (i := k) (v := nI (k2 + 1)) rfl tA_238 (Nat.le_of_ble_eq_true rfl) (by rw [lA_238]; omega) (Nat.le_of_ble_eq_true rfl) dL_would_351 (hp) ?_
          refine wp_ifN_ne (a := (k2 + 1)) (tgt := 358) dL_would_352 (by decide) rfl (by omega) (fun h352 => ?_) (fun h352 => absurd h352 (by omega))
          refine wp_aload dL_would_358 rfl ?_
          refine wp_iload dL_would_360 rfl ?_
          refine wp_iadn (i := k) (v := nI (k2 + 1)) rfl tA_238 (Nat.le_of_ble_eq_true rfl) (by rw [lA_238]; omega) (Nat.le_of_ble_eq_true rfl) dL_would_362 (hp) ?_
          refine wp_iconst (v := 1) dL_would_363 (by decide) ?_
          refine wp_isub dL_would_364 ?_
          refine wp_top (nI_pred k2) ?_
          refine wp_istore (L' := [some (.ref 8), some (.int x), some (.ref 235), some (.ref 236), some (.ref 237), some (.ref 238), some (.ref 239), some (.ref 242), some (.ref 243), some (.ref 244), some (.ref 245), some (.ref 246), some (.int (nI c)), none, none, none, some (.int (nI (rk - cnt (M 238) k))), some (.int (nI st)), some (.int (nI k2)), some (.int (nI k)), none, none, none, none]) dL_would_365 (by decide) rfl ?_
          refine wp_iinc (v := nI ((rk - cnt (M 238) k) - 1)) (L' := [some (.ref 8), some (.int x), some (.ref 235), some (.ref 236), some (.ref 237), some (.ref 238), some (.ref 239), some (.ref 242), some (.ref 243), some (.ref 244), some (.ref 245), some (.ref 246), some (.int (nI c)), none, none, none, some (.int (nI ((rk - cnt (M 238) k) - 1))), some (.int (nI st)), some (.int (nI k2)), some (.int (nI k)), none, none, none, none]) dL_would_367 (by decide) rfl (dec_1 (by omega)) rfl ?_
          refine wp_iinc (v := nI (k + 1)) (L' := [some (.ref 8), some (.int x), some (.ref 235), some (.ref 236), some (.ref 237), some (.ref 238), some (.ref 239), some (.ref 242), some (.ref 243), some (.ref 244), some (.ref 245), some (.ref 246), some (.int (nI c)), none, none, none, some (.int (nI ((rk - cnt (M 238) k) - 1))), some (.int (nI st)), some (.int (nI k2)), some (.int (nI (k + 1))), none, none, none, none]) dL_would_370 (by decide) rfl (inc_1 _) rfl ?_
          refine wp_goto (tgt := 335) dL_would_373 (by decide) ?_
          have h := ih (k + 1) (nI k2) none none none none (by omega) (by omega)
          rw [e1, show rk - (cnt (M 238) k + 1) = rk - cnt (M 238) k - 1 by omega] at h
          exact h
  refine wp_drop [some (.ref 8), some (.int x), some (.ref 235), some (.ref 236), some (.ref 237), some (.ref 238), some (.ref 239), some (.ref 242), some (.ref 243), some (.ref 244), some (.ref 245), some (.ref 246), some (.int (nI c)), none, none, none, some (.int (nI rk)), some (.int (nI st)), none, none, none, none, none, none] (by simp [leL]) ?_
  refine wp_iconst (v := (-1)) dL_would_329 (by decide) ?_
  refine wp_istore (L' := [some (.ref 8), some (.int x), some (.ref 235), some (.ref 236), some (.ref 237), some (.ref 238), some (.ref 239), some (.ref 242), some (.ref 243), some (.ref 244), some (.ref 245), some (.ref 246), some (.int (nI c)), none, none, none, some (.int (nI rk)), some (.int (nI st)), some (.int (-1)), none, none, none, none, none]) dL_would_330 (by decide) rfl ?_
  refine wp_iconst (v := 0) dL_would_332 (by decide) ?_
  refine wp_istore (L' := [some (.ref 8), some (.int x), some (.ref 235), some (.ref 236), some (.ref 237), some (.ref 238), some (.ref 239), some (.ref 242), some (.ref 243), some (.ref 244), some (.ref 245), some (.ref 246), some (.int (nI c)), none, none, none, some (.int (nI rk)), some (.int (nI st)), some (.int (-1)), some (.int _), none, none, none, none]) dL_would_333 (by decide) rfl ?_
  have h := loop 36 0 (-1) none none none none rfl (Nat.zero_le _)
  exact h

set_option maxRecDepth 100000 in
set_option maxHeartbeats 4000000 in
theorem wd_296 {γ : Gm} {l : Launch} {M : Mm} {R : Rm} {K : KT} {t13 t14 t15 t16 t17 t18 t19 t20 t21 t22 t23 : Option Value} {x : Int32} {sg tx F : Nat → Int32} {rc pl : Nat} {hs S : Nat → Nat → Int32} {c : Nat} (hc : IC M R sg rc hs F S tx pl) (hl : LT M 234 238 (nP sg) sg) (hq4 : M 235 4 = nI (nP sg)) (hc4 : c < 40) (kk : ∀ M1, IC M1 R sg rc hs F S tx pl → (∀ a, 235 ≤ a → a < 242 → M1 a = M a) → K (some (.int 1)) 247 M1 R)  : WP γ l mL_would 7 247 247 296 [some (.ref 8), some (.int x), some (.ref 235), some (.ref 236), some (.ref 237), some (.ref 238), some (.ref 239), some (.ref 242), some (.ref 243), some (.ref 244), some (.ref 245), some (.ref 246), some (.int (nI c)), t13, t14, t15, t16, t17, t18, t19, t20, t21, t22, t23] [] 247 M R K := by
  have h6 := hc.ok.p6
  refine wp_drop [some (.ref 8), some (.int x), some (.ref 235), some (.ref 236), some (.ref 237), some (.ref 238), some (.ref 239), some (.ref 242), some (.ref 243), some (.ref 244), some (.ref 245), some (.ref 246), some (.int (nI c)), none, none, none, none, none, none, none, none, none, none, none] (by simp [leL]) ?_
  refine wp_aload_n dL_would_296 rfl ?_
  refine wp_iconst (v := 4) dL_would_297 (by decide) ?_
  refine wp_iadn (i := 4) (v := nI (nP sg)) rfl tA_235 (Nat.le_of_ble_eq_true rfl) (by rw [lA_235]; omega) (Nat.le_of_ble_eq_true rfl) dL_would_298 (hq4) ?_
  refine wp_ifN_ne (a := (nP sg)) (tgt := 304) dL_would_299 (by decide) rfl (by omega) (fun h299 => ?_) (fun h299 => ?_)
  · refine wp_iload_n dL_would_304 rfl ?_
    refine wp_bipush (v := 9) dL_would_305 (by decide) ?_
    refine wp_ishr dL_would_307 ?_
    refine wp_aload_n dL_would_308 rfl ?_
    refine wp_iconst (v := 4) dL_would_309 (by decide) ?_
    refine wp_iadn (i := 4) (v := nI (nP sg)) rfl tA_235 (Nat.le_of_ble_eq_true rfl) (by rw [lA_235]; omega) (Nat.le_of_ble_eq_true rfl) dL_would_310 (hq4) ?_
    refine wp_cS2 (z := mL_low) (n' := 247) kL_47 dL_would_311 (Nat.le_of_ble_eq_true rfl) (Nat.le_of_ble_eq_true rfl) (Nat.le_of_ble_eq_true rfl) (Nat.le_refl _) (Nat.le_refl _) (s_L_low (n := nP sg) (by omega) (by omega) (wp_af ?_))
    refine wp_istore (L' := [some (.ref 8), some (.int x), some (.ref 235), some (.ref 236), some (.ref 237), some (.ref 238), some (.ref 239), some (.ref 242), some (.ref 243), some (.ref 244), some (.ref 245), some (.ref 246), some (.int (nI c)), none, none, none, some (.int (nI (lowN (x >>> ((9 : Int32) &&& 31)) (nP sg)))), none, none, none, none, none, none, none]) dL_would_314 (by decide) rfl ?_
    refine wp_iconst (v := 1) dL_would_316 (by decide) ?_
    refine wp_iload_n dL_would_317 rfl ?_
    refine wp_bipush (v := 12) dL_would_318 (by decide) ?_
    refine wp_ishr dL_would_320 ?_
    refine wp_bipush (v := 40) dL_would_321 (by decide) ?_
    refine wp_cS2 (z := mL_low) (n' := 247) kL_47 dL_would_323 (Nat.le_of_ble_eq_true rfl) (Nat.le_of_ble_eq_true rfl) (Nat.le_of_ble_eq_true rfl) (Nat.le_refl _) (Nat.le_refl _) (s_L_low (n := 40) (by omega) (by decide) (wp_af ?_))
    refine wp_iadd dL_would_326 ?_
    refine wp_top ((ix_add rfl rfl)) ?_
    refine wp_istore (L' := [some (.ref 8), some (.int x), some (.ref 235), some (.ref 236), some (.ref 237), some (.ref 238), some (.ref 239), some (.ref 242), some (.ref 243), some (.ref 244), some (.ref 245), some (.ref 246), some (.int (nI c)), none, none, none, some (.int (nI (lowN (x >>> ((9 : Int32) &&& 31)) (nP sg)))), some (.int (nI (1 + (lowN (x >>> ((12 : Int32) &&& 31)) 40)))), none, none, none, none, none, none]) dL_would_327 (by decide) rfl ?_
    have hlo := lowN_lt (x >>> ((12 : Int32) &&& 31)) (n := 40) (by omega)
    exact wd_329 hc hl hq4 hc4 rfl (lowN_lt _ (by omega)) (by omega) (by omega) kk
  · refine wp_iconst (v := 1) dL_would_302 (by decide) ?_
    exact wp_iret dL_would_303 rfl rfl rfl (kk M hc (fun _ _ _ => rfl))

set_option maxRecDepth 100000 in
set_option maxHeartbeats 4000000 in
theorem s_L_would {γ : Gm} {l : Launch} {M : Mm} {R : Rm} {K : KT} {x : Int32} {sg tx F : Nat → Int32} {rc pl : Nat} {hs S : Nat → Nat → Int32}  (hc : IC M R sg rc hs F S tx pl) (hl : LT M 234 238 (nP sg) sg) (hq4 : M 235 4 = nI (nP sg)) (kk : ∀ M1, IC M1 R sg rc hs F S tx pl → (∀ a, 235 ≤ a → a < 242 → M1 a = M a) → K (some (.int 1)) 247 M1 R)  : CL γ l mL_would 7 247 247 [.ref 8, .int x, .ref 235, .ref 236, .ref 237, .ref 238, .ref 239, .ref 242, .ref 243, .ref 244, .ref 245, .ref 246] M R K := by
  show WP γ l mL_would 7 247 247 0 [some (.ref 8), some (.int x), some (.ref 235), some (.ref 236), some (.ref 237), some (.ref 238), some (.ref 239), some (.ref 242), some (.ref 243), some (.ref 244), some (.ref 245), some (.ref 246), none, none, none, none, none, none, none, none, none, none, none, none] [] 247 M R K
  have s35 : ∀ (c far : Nat), c < 40 → 1 ≤ far → far ≤ 9999 → WP γ l mL_would 7 247 247 35 [some (.ref 8), some (.int x), some (.ref 235), some (.ref 236), some (.ref 237), some (.ref 238), some (.ref 239), some (.ref 242), some (.ref 243), some (.ref 244), some (.ref 245), some (.ref 246), some (.int (nI c)), none, none, none, none, none, none, none, none, none, none, none] [.int (nI far)] 247 M R K := by
    intro c far hc4 hf1 hf2
    refine wp_istore (L' := [some (.ref 8), some (.int x), some (.ref 235), some (.ref 236), some (.ref 237), some (.ref 238), some (.ref 239), some (.ref 242), some (.ref 243), some (.ref 244), some (.ref 245), some (.ref 246), some (.int (nI c)), some (.int (nI far)), none, none, none, none, none, none, none, none, none, none]) dL_would_35 (by decide) rfl ?_
    refine wd_37 hc hl hc4 hf1 hf2 (fun M1 t14 t15 t16 t17 t18 t19 t20 t21 t22 t23 c1 f1 g1 => ?_)
    have l1 : LT M1 234 238 (nP sg) sg := hl.fr (fun j _ => by rw [f1 235 (by omega) (by omega)]) (f1 236 (by omega) (by omega)) (f1 237 (by omega) (by omega)) (f1 238 (by omega) (by omega)) (f1 239 (by omega) (by omega))
    refine wd_142 c1 l1 g1 (fun M2 t14 t15 t16 t17 t18 t19 t20 t21 t22 t23 c2 f2 => ?_)
    have e2 : ∀ a, 235 ≤ a → a < 242 → M2 a = M a := fun a a1 a2 => by rw [f2 a a1 a2, f1 a a1 a2]
    have l2 : LT M2 234 238 (nP sg) sg := hl.fr (fun j _ => by rw [e2 235 (by omega) (by omega)]) (e2 236 (by omega) (by omega)) (e2 237 (by omega) (by omega)) (e2 238 (by omega) (by omega)) (e2 239 (by omega) (by omega))
    exact wd_296 c2 l2 (by rw [e2 235 (by omega) (by omega)]; exact hq4) hc4 (fun M3 c3 f3 => kk M3 c3 fun a a1 a2 => by rw [f3 a a1 a2, e2 a a1 a2])
  refine wp_iload_n dL_would_0 rfl ?_
  refine wp_bipush (v := 40) dL_would_1 (by decide) ?_
  refine wp_cS2 (z := mL_low) (n' := 247) kL_47 dL_would_3 (Nat.le_of_ble_eq_true rfl) (Nat.le_of_ble_eq_true rfl) (Nat.le_of_ble_eq_true rfl) (Nat.le_refl _) (Nat.le_refl _) (s_L_low (n := 40) (by omega) (by decide) (wp_af ?_))
  refine wp_istore (L' := [some (.ref 8), some (.int x), some (.ref 235), some (.ref 236), some (.ref 237), some (.ref 238), some (.ref 239), some (.ref 242), some (.ref 243), some (.ref 244), some (.ref 245), some (.ref 246), some (.int (nI (lowN x 40))), none, none, none, none, none, none, none, none, none, none, none]) dL_would_6 (by decide) rfl ?_
  refine wp_iconst (v := 1) dL_would_8 (by decide) ?_
  refine wp_iload_n dL_would_9 rfl ?_
  refine wp_bipush (v := 6) dL_would_10 (by decide) ?_
  refine wp_ishr dL_would_12 ?_
  refine wp_iload_n dL_would_13 rfl ?_
  refine wp_iconst (v := 5) dL_would_14 (by decide) ?_
  refine wp_ishr dL_would_15 ?_
  refine wp_iconst (v := 2) dL_would_16 (by decide) ?_
  refine wp_cS2 (z := mL_low) (n' := 247) kL_47 dL_would_17 (Nat.le_of_ble_eq_true rfl) (Nat.le_of_ble_eq_true rfl) (Nat.le_of_ble_eq_true rfl) (Nat.le_refl _) (Nat.le_refl _) (s_L_low (n := 2) (by omega) (by decide) (wp_af ?_))
  have hl5 := lowN_lt (x >>> ((5 : Int32) &&& 31)) (n := 2) (by omega)
  refine wp_ifN_ne (a := (lowN (x >>> ((5 : Int32) &&& 31)) 2)) (tgt := 29) dL_would_20 (by decide) rfl (by omega) (fun h20 => ?_) (fun h20 => ?_)
  · refine wp_bipush (v := 90) dL_would_29 (by decide) ?_
    refine wp_cS2 (z := mL_low) (n' := 247) kL_47 dL_would_31 (Nat.le_of_ble_eq_true rfl) (Nat.le_of_ble_eq_true rfl) (Nat.le_of_ble_eq_true rfl) (Nat.le_refl _) (Nat.le_refl _) (s_L_low (n := 90) (by omega) (by decide) (wp_af ?_))
    refine wp_iadd dL_would_34 ?_
    have hlo := lowN_lt (x >>> ((6 : Int32) &&& 31)) (n := 90) (by omega)
    refine wp_top (ix_add (a := 1) rfl rfl) ?_
    exact s35 _ _ (lowN_lt _ (by omega)) (by omega) (by omega)
  · refine wp_sipush (v := 9999) dL_would_23 (by decide) ?_
    refine wp_goto (tgt := 31) dL_would_26 (by decide) ?_
    refine wp_cS2 (z := mL_low) (n' := 247) kL_47 dL_would_31 (Nat.le_of_ble_eq_true rfl) (Nat.le_of_ble_eq_true rfl) (Nat.le_of_ble_eq_true rfl) (Nat.le_refl _) (Nat.le_refl _) (s_L_low (n := 9999) (by omega) (by decide) (wp_af ?_))
    refine wp_iadd dL_would_34 ?_
    have hlo := lowN_lt (x >>> ((6 : Int32) &&& 31)) (n := 9999) (by omega)
    refine wp_top (ix_add (a := 1) rfl rfl) ?_
    exact s35 _ _ (lowN_lt _ (by omega)) (by omega) (by omega)

