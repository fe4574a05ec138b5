/-! THE CLASS: what gauges tell -/
theorem i32_asym {x z : Int32} (h1 : x ≤ z) (h2 : z ≤ x) : x = z := by
  apply Int32.toInt_inj.mp
  simp only [Int32.le_iff_toInt_le] at *
  omega
def Mxm (f : Nat → Int32) (m : Nat) (v : Int32) : Prop := (∀ q, q < m → f q ≤ v) ∧ ∃ q, q < m ∧ v = f q
def Mnm (f : Nat → Int32) (m : Nat) (v : Int32) : Prop := (∀ q, q < m → v ≤ f q) ∧ ∃ q, q < m ∧ v = f q
theorem Mxm.one {f : Nat → Int32} {m : Nat} {v w : Int32} (h1 : Mxm f m v) (h2 : Mxm f m w) : v = w := by
  obtain ⟨a1, q1, a2, a3⟩ := h1
  obtain ⟨b1, q2, b2, b3⟩ := h2
  exact i32_asym (by rw [a3]; exact b1 q1 a2) (by rw [b3]; exact a1 q2 b2)
theorem Mnm.one {f : Nat → Int32} {m : Nat} {v w : Int32} (h1 : Mnm f m v) (h2 : Mnm f m w) : v = w := by
  obtain ⟨a1, q1, a2, a3⟩ := h1
  obtain ⟨b1, q2, b2, b3⟩ := h2
  exact i32_asym (by rw [b3]; exact a1 q2 b2) (by rw [a3]; exact b1 q1 a2)
theorem i32_tr {x y z : Int32} (h1 : x ≤ y) (h2 : y ≤ z) : x ≤ z := by
  simp only [Int32.le_iff_toInt_le] at *
  omega
theorem i32_lt {x y : Int32} (h : x < y) : x ≤ y := by
  simp only [Int32.le_iff_toInt_le, Int32.lt_iff_toInt_lt] at *
  omega
theorem exU_mx (f : Nat → Int32) : ∀ k, Mxm f (k + 1) (exU 1 f k)
  | 0 => ⟨fun q hq => by rw [show q = 0 by omega]; exact Int32.le_refl _, 0, by omega, rfl⟩
  | k + 1 => by
    obtain ⟨h1, q, h2, h3⟩ := exU_mx f k
    rw [exU, if_neg (by decide)]
    by_cases h : exU 1 f k < f (k + 1)
    · rw [if_pos h]
      refine ⟨fun p hp => ?_, k + 1, by omega, rfl⟩
      by_cases e : p = k + 1
      · rw [e]
        exact Int32.le_refl _
      · exact i32_tr (h1 p (by omega)) (i32_lt h)
    · rw [if_neg h]
      refine ⟨fun p hp => ?_, q, by omega, h3⟩
      by_cases e : p = k + 1
      · rw [e]
        exact Int32.not_lt.mp h
      · exact h1 p (by omega)
theorem exU_mn (f : Nat → Int32) : ∀ k, Mnm f (k + 1) (exU 0 f k)
  | 0 => ⟨fun q hq => by rw [show q = 0 by omega]; exact Int32.le_refl _, 0, by omega, rfl⟩
  | k + 1 => by
    obtain ⟨h1, q, h2, h3⟩ := exU_mn f k
    rw [exU, if_pos rfl]
    by_cases h : f (k + 1) < exU 0 f k
    · rw [if_pos h]
      refine ⟨fun p hp => ?_, k + 1, by omega, rfl⟩
      by_cases e : p = k + 1
      · rw [e]
        exact Int32.le_refl _
      · exact i32_tr (i32_lt h) (h1 p (by omega))
    · rw [if_neg h]
      refine ⟨fun p hp => ?_, q, by omega, h3⟩
      by_cases e : p = k + 1
      · rw [e]
        exact Int32.not_lt.mp h
      · exact h1 p (by omega)
/-- the notes of a gauge, the newest first: after k of m -/
def Mxk (f : Nat → Int32) (m k : Nat) (v : Int32) : Prop := (∀ q, q < k → f (m - 1 - q) ≤ v) ∧ (v = -9999 ∨ ∃ q, q < k ∧ v = f (m - 1 - q))
def Mnk (f : Nat → Int32) (m k : Nat) (v : Int32) : Prop := (∀ q, q < k → v ≤ f (m - 1 - q)) ∧ (v = 9999 ∨ ∃ q, q < k ∧ v = f (m - 1 - q))
theorem Mxk.next {f : Nat → Int32} {m k : Nat} {v : Int32} (h : Mxk f m k v) : Mxk f m (k + 1) (mxI v (f (m - 1 - k))) := by
  unfold mxI
  by_cases e : v < f (m - 1 - k)
  · rw [if_pos e]
    refine ⟨fun q hq => ?_, Or.inr ⟨k, by omega, rfl⟩⟩
    by_cases e2 : q = k
    · rw [e2]
      exact Int32.le_refl _
    · exact i32_tr (h.1 q (by omega)) (i32_lt e)
  · rw [if_neg e]
    refine ⟨fun q hq => ?_, h.2.elim Or.inl fun ⟨q, h1, h2⟩ => Or.inr ⟨q, by omega, h2⟩⟩
    by_cases e2 : q = k
    · rw [e2]
      exact Int32.not_lt.mp e
    · exact h.1 q (by omega)
theorem Mnk.next {f : Nat → Int32} {m k : Nat} {v : Int32} (h : Mnk f m k v) : Mnk f m (k + 1) (mnI v (f (m - 1 - k))) := by
  unfold mnI
  by_cases e : f (m - 1 - k) < v
  · rw [if_pos e]
    refine ⟨fun q hq => ?_, Or.inr ⟨k, by omega, rfl⟩⟩
    by_cases e2 : q = k
    · rw [e2]
      exact Int32.le_refl _
    · exact i32_tr (i32_lt e) (h.1 q (by omega))
  · rw [if_neg e]
    refine ⟨fun q hq => ?_, h.2.elim Or.inl fun ⟨q, h1, h2⟩ => Or.inr ⟨q, by omega, h2⟩⟩
    by_cases e2 : q = k
    · rw [e2]
      exact Int32.not_lt.mp e
    · exact h.1 q (by omega)
theorem Mxk.all {f : Nat → Int32} {m : Nat} {v : Int32} (h : Mxk f m m v) (h0 : 0 < m) (hb : ∀ q, q < m → bd (f q)) : v = exU 1 f (m - 1) := by
  have e := exU_mx f (m - 1)
  rw [show m - 1 + 1 = m by omega] at e
  refine Mxm.one ⟨fun q hq => ?_, ?_⟩ e
  · have := h.1 (m - 1 - q) (by omega)
    rwa [show m - 1 - (m - 1 - q) = q by omega] at this
  · rcases h.2 with h2 | ⟨q, h2, h3⟩
    · refine ⟨0, h0, i32_asym (by rw [h2]; exact (hb 0 h0).1) ?_⟩
      have := h.1 (m - 1) (by omega)
      rwa [show m - 1 - (m - 1) = 0 by omega] at this
    · exact ⟨m - 1 - q, by omega, h3⟩
theorem Mnk.all {f : Nat → Int32} {m : Nat} {v : Int32} (h : Mnk f m m v) (h0 : 0 < m) (hb : ∀ q, q < m → bd (f q)) : v = exU 0 f (m - 1) := by
  have e := exU_mn f (m - 1)
  rw [show m - 1 + 1 = m by omega] at e
  refine Mnm.one ⟨fun q hq => ?_, ?_⟩ e
  · have := h.1 (m - 1 - q) (by omega)
    rwa [show m - 1 - (m - 1 - q) = q by omega] at this
  · rcases h.2 with h2 | ⟨q, h2, h3⟩
    · refine ⟨0, h0, i32_asym ?_ (by rw [h2]; exact (hb 0 h0).2)⟩
      have := h.1 (m - 1) (by omega)
      rwa [show m - 1 - (m - 1) = 0 by omega] at this
    · exact ⟨m - 1 - q, by omega, h3⟩
set_option maxRecDepth 100000 in
set_option maxHeartbeats 4000000 in
theorem s_X0_greatest {γ : Gm} {l : Launch} {M : Mm} {R : Rm} {K : KT} {b g : Nat} {m : Nat} {sg f : Nat → Int32}  (hT : Tb b) (hR : RT R b) (hg : g < 4) (hG : GkO M b g sg) (hm : m ≤ 60) (hm2 : sg (122 + 62 * g + 1) = nI m) (h0 : 0 < m) (hf : ∀ q, f q = sg (122 + 62 * g + (2 + q))) (hb : ∀ q, q < m → bd (f q)) (hK : K (some (.int (exU 1 f (m - 1)))) 247 M R) : CL γ l mX0_greatest 2 247 247 [.ref (b + 12 + 2 * g)] M R K := by
  show WP γ l mX0_greatest 2 247 247 0 [some (.ref (b + 12 + 2 * g)), none, none] [] 247 M R K
  have h2m : M (b + 12 + 2 * g) 2 = nI m := hG.2.1.trans hm2
  have loop : ∀ (q k : Nat) (v : Int32), q + k = m → Mxk f m k v → WP γ l mX0_greatest 2 247 247 6 [some (.ref (b + 12 + 2 * g)), some (.int v), some (.int (nI k))] [] 247 M R K := by
    intro q
    induction q with
    | zero =>
      intro k v hk hv
      refine wp_iload_n dX0_greatest_6 rfl ?_
      refine wp_aload_n dX0_greatest_7 rfl ?_
      refine wp_getJ (v := nI m) fX0_25 (hT.tg0 hg).1 rfl (by have := hT.lt; omega) dX0_greatest_8 (h2m) ?_
      refine wp_icN_ge (a := k) (b := m) (tgt := 30) dX0_greatest_11 (by decide) rfl rfl (by omega) (by omega) (fun h11 => ?_) (fun h11 => absurd h11 (by omega))
      refine wp_iload_n dX0_greatest_30 rfl ?_
      exact wp_iret dX0_greatest_31 rfl rfl rfl (by rw [show k = m by omega] at hv; rw [hv.all h0 hb]; exact hK)
    | succ q ih =>
      intro k v hk hv
      refine wp_iload_n dX0_greatest_6 rfl ?_
      refine wp_aload_n dX0_greatest_7 rfl ?_
      refine wp_getJ (v := nI m) fX0_25 (hT.tg0 hg).1 rfl (by have := hT.lt; omega) dX0_greatest_8 (h2m) ?_
      refine wp_icN_ge (a := k) (b := m) (tgt := 30) dX0_greatest_11 (by decide) rfl rfl (by omega) (by omega) (fun h11 => absurd h11 (by omega)) (fun h11 => ?_)
      refine wp_iload_n dX0_greatest_14 rfl ?_
      refine wp_aload_n dX0_greatest_15 rfl ?_
      refine wp_iload_n dX0_greatest_16 rfl ?_
      refine wp_cV1 (z := mX0_levelAgo) (n' := 247) kX0_40 dX0_greatest_17 (Nat.le_of_ble_eq_true rfl) (Nat.le_of_ble_eq_true rfl) (hT.tg0 hg).1 (by have := hT.lt; omega) (Nat.le_of_ble_eq_true rfl) (Nat.le_refl _) (Nat.le_refl _) (s_X0_levelAgo hT hR hg hG hm hm2 (show k < m by omega) (wp_af ?_))
      refine wp_top (z := f (m - 1 - k)) (by rw [hf, Nat.add_assoc]) ?_
      refine wp_cS2 (z := mJ9_max_7cf53) (n' := 247) kX0_44 dX0_greatest_20 (Nat.le_of_ble_eq_true rfl) (Nat.le_of_ble_eq_true rfl) (Nat.le_of_ble_eq_true rfl) (Nat.le_refl _) (Nat.le_refl _) (s_J9_max_7cf53 (wp_af ?_))
      refine wp_istore_n (L' := [some (.ref (b + 12 + 2 * g)), some (.int _), some (.int (nI k))]) dX0_greatest_23 (by decide) rfl ?_
      refine wp_iinc (v := nI (k + 1)) (L' := [some (.ref (b + 12 + 2 * g)), some (.int _), some (.int (nI (k + 1)))]) dX0_greatest_24 (by decide) rfl (inc_1 _) rfl ?_
      refine wp_goto (tgt := 6) dX0_greatest_27 (by decide) ?_
      exact ih (k + 1) _ (by omega) hv.next
  refine wp_sipush (v := (-9999)) dX0_greatest_0 (by decide) ?_
  refine wp_istore_n (L' := [some (.ref (b + 12 + 2 * g)), some (.int (-9999)), none]) dX0_greatest_3 (by decide) rfl ?_
  refine wp_iconst (v := 0) dX0_greatest_4 (by decide) ?_
  refine wp_istore_n (L' := [some (.ref (b + 12 + 2 * g)), some (.int (-9999)), some (.int _)]) dX0_greatest_5 (by decide) rfl ?_
  exact loop m 0 _ rfl ⟨fun q hq => absurd hq (by omega), Or.inl rfl⟩

set_option maxRecDepth 100000 in
set_option maxHeartbeats 4000000 in
theorem s_X0_least {γ : Gm} {l : Launch} {M : Mm} {R : Rm} {K : KT} {b g : Nat} {m : Nat} {sg f : Nat → Int32}  (hT : Tb b) (hR : RT R b) (hg : g < 4) (hG : GkO M b g sg) (hm : m ≤ 60) (hm2 : sg (122 + 62 * g + 1) = nI m) (h0 : 0 < m) (hf : ∀ q, f q = sg (122 + 62 * g + (2 + q))) (hb : ∀ q, q < m → bd (f q)) (hK : K (some (.int (exU 0 f (m - 1)))) 247 M R) : CL γ l mX0_least 2 247 247 [.ref (b + 12 + 2 * g)] M R K := by
  show WP γ l mX0_least 2 247 247 0 [some (.ref (b + 12 + 2 * g)), none, none] [] 247 M R K
  have h2m : M (b + 12 + 2 * g) 2 = nI m := hG.2.1.trans hm2
  have loop : ∀ (q k : Nat) (v : Int32), q + k = m → Mnk f m k v → WP γ l mX0_least 2 247 247 6 [some (.ref (b + 12 + 2 * g)), some (.int v), some (.int (nI k))] [] 247 M R K := by
    intro q
    induction q with
    | zero =>
      intro k v hk hv
      refine wp_iload_n dX0_least_6 rfl ?_
      refine wp_aload_n dX0_least_7 rfl ?_
      refine wp_getJ (v := nI m) fX0_25 (hT.tg0 hg).1 rfl (by have := hT.lt; omega) dX0_least_8 (h2m) ?_
      refine wp_icN_ge (a := k) (b := m) (tgt := 30) dX0_least_11 (by decide) rfl rfl (by omega) (by omega) (fun h11 => ?_) (fun h11 => absurd h11 (by omega))
      refine wp_iload_n dX0_least_30 rfl ?_
      exact wp_iret dX0_least_31 rfl rfl rfl (by rw [show k = m by omega] at hv; rw [hv.all h0 hb]; exact hK)
    | succ q ih =>
      intro k v hk hv
      refine wp_iload_n dX0_least_6 rfl ?_
      refine wp_aload_n dX0_least_7 rfl ?_
      refine wp_getJ (v := nI m) fX0_25 (hT.tg0 hg).1 rfl (by have := hT.lt; omega) dX0_least_8 (h2m) ?_
      refine wp_icN_ge (a := k) (b := m) (tgt := 30) dX0_least_11 (by decide) rfl rfl (by omega) (by omega) (fun h11 => absurd h11 (by omega)) (fun h11 => ?_)
      refine wp_iload_n dX0_least_14 rfl ?_
      refine wp_aload_n dX0_least_15 rfl ?_
      refine wp_iload_n dX0_least_16 rfl ?_
      refine wp_cV1 (z := mX0_levelAgo) (n' := 247) kX0_40 dX0_least_17 (Nat.le_of_ble_eq_true rfl) (Nat.le_of_ble_eq_true rfl) (hT.tg0 hg).1 (by have := hT.lt; omega) (Nat.le_of_ble_eq_true rfl) (Nat.le_refl _) (Nat.le_refl _) (s_X0_levelAgo hT hR hg hG hm hm2 (show k < m by omega) (wp_af ?_))
      refine wp_top (z := f (m - 1 - k)) (by rw [hf, Nat.add_assoc]) ?_
      refine wp_cS2 (z := mJ9_min_7cf53) (n' := 247) kX0_31 dX0_least_20 (Nat.le_of_ble_eq_true rfl) (Nat.le_of_ble_eq_true rfl) (Nat.le_of_ble_eq_true rfl) (Nat.le_refl _) (Nat.le_refl _) (s_J9_min_7cf53 (wp_af ?_))
      refine wp_istore_n (L' := [some (.ref (b + 12 + 2 * g)), some (.int _), some (.int (nI k))]) dX0_least_23 (by decide) rfl ?_
      refine wp_iinc (v := nI (k + 1)) (L' := [some (.ref (b + 12 + 2 * g)), some (.int _), some (.int (nI (k + 1)))]) dX0_least_24 (by decide) rfl (inc_1 _) rfl ?_
      refine wp_goto (tgt := 6) dX0_least_27 (by decide) ?_
      exact ih (k + 1) _ (by omega) hv.next
  refine wp_sipush (v := 9999) dX0_least_0 (by decide) ?_
  refine wp_istore_n (L' := [some (.ref (b + 12 + 2 * g)), some (.int _), none]) dX0_least_3 (by decide) rfl ?_
  refine wp_iconst (v := 0) dX0_least_4 (by decide) ?_
  refine wp_istore_n (L' := [some (.ref (b + 12 + 2 * g)), some (.int _), some (.int _)]) dX0_least_5 (by decide) rfl ?_
  exact loop m 0 _ rfl ⟨fun q hq => absurd hq (by omega), Or.inl rfl⟩

set_option maxRecDepth 100000 in
set_option maxHeartbeats 4000000 in
theorem s_X0_rises {γ : Gm} {l : Launch} {M : Mm} {R : Rm} {K : KT} {b g : Nat} {m : Nat} {sg f : Nat → Int32}  (hT : Tb b) (hR : RT R b) (hg : g < 4) (hG : GkO M b g sg) (hm : m ≤ 60) (hm2 : sg (122 + 62 * g + 1) = nI m) (hf : ∀ q, f q = sg (122 + 62 * g + (2 + q))) (hK : K (some (.int (riU f (m - 1)))) 247 M R) : CL γ l mX0_rises 2 247 247 [.ref (b + 12 + 2 * g)] M R K := by
  show WP γ l mX0_rises 2 247 247 0 [some (.ref (b + 12 + 2 * g)), none, none] [] 247 M R K
  have h2m : M (b + 12 + 2 * g) 2 = nI m := hG.2.1.trans hm2
  have loop : ∀ (q k : Nat) (v : Int32), q + k = m - 1 → v + riU f (m - 1 - k) = riU f (m - 1) → WP γ l mX0_rises 2 247 247 4 [some (.ref (b + 12 + 2 * g)), some (.int v), some (.int (nI k))] [] 247 M R K := by
    intro q
    induction q with
    | zero =>
      intro k v hk hv
      refine wp_iload_n dX0_rises_4 rfl ?_
      refine wp_iconst (v := 1) dX0_rises_5 (by decide) ?_
      refine wp_iadd dX0_rises_6 ?_
      refine wp_aload_n dX0_rises_7 rfl ?_
      refine wp_getJ (v := nI m) fX0_25 (hT.tg0 hg).1 rfl (by have := hT.lt; omega) dX0_rises_8 (h2m) ?_
      refine wp_icN_ge (a := (k + 1)) (b := m) (tgt := 41) dX0_rises_11 (by decide) (ix_add rfl rfl) rfl (by omega) (by omega) (fun h11 => ?_) (fun h11 => absurd h11 (by omega))
      refine wp_iload_n dX0_rises_41 rfl ?_
      exact wp_iret dX0_rises_42 rfl rfl rfl (by rw [show m - 1 - k = 0 by omega, riU, Int32.add_zero] at hv; rw [hv]; exact hK)
    | succ q ih =>
      intro k v hk hv
      obtain ⟨p, hp⟩ : ∃ p, m = p + k + 2 := ⟨m - k - 2, by omega⟩
      have step : ∀ w : Int32, w = v + (if 0 ≤ f (p + 1) ∧ f p < 0 then 1 else 0) → WP γ l mX0_rises 2 247 247 4 [some (.ref (b + 12 + 2 * g)), some (.int w), some (.int (nI (k + 1)))] [] 247 M R K := by
        intro w hw
        refine ih (k + 1) w (by omega) ?_
        rw [← hv, hw, show m - 1 - k = p + 1 by omega, show m - 1 - (k + 1) = p by omega, riU, Int32.add_assoc, Int32.add_comm (riU f p)]
      refine wp_iload_n dX0_rises_4 rfl ?_
      refine wp_iconst (v := 1) dX0_rises_5 (by decide) ?_
      refine wp_iadd dX0_rises_6 ?_
      refine wp_aload_n dX0_rises_7 rfl ?_
      refine wp_getJ (v := nI m) fX0_25 (hT.tg0 hg).1 rfl (by have := hT.lt; omega) dX0_rises_8 (h2m) ?_
      refine wp_icN_ge (a := (k + 1)) (b := m) (tgt := 41) dX0_rises_11 (by decide) (ix_add rfl rfl) rfl (by omega) (by omega) (fun h11 => absurd h11 (by omega)) (fun h11 => ?_)
      refine wp_aload_n dX0_rises_14 rfl ?_
      refine wp_iload_n dX0_rises_15 rfl ?_
      refine wp_cV1 (z := mX0_levelAgo) (n' := 247) kX0_40 dX0_rises_16 (Nat.le_of_ble_eq_true rfl) (Nat.le_of_ble_eq_true rfl) (hT.tg0 hg).1 (by have := hT.lt; omega) (Nat.le_of_ble_eq_true rfl) (Nat.le_refl _) (Nat.le_refl _) (s_X0_levelAgo hT hR hg hG hm hm2 (show k < m by omega) (wp_af ?_))
      refine wp_top (z := f (p + 1)) (by rw [hf, Nat.add_assoc, show m - 1 - k = p + 1 by omega]) ?_
      refine wp_if_lt (tgt := 35) dX0_rises_19 (by decide) (fun h19 => ?_) (fun h19 => ?_)
      · refine wp_iinc (v := nI (k + 1)) (L' := [some (.ref (b + 12 + 2 * g)), some (.int v), some (.int (nI (k + 1)))]) dX0_rises_35 (by decide) rfl (inc_1 _) rfl ?_
        refine wp_goto (tgt := 4) dX0_rises_38 (by decide) ?_
        first
          | exact step _ (by rw [if_neg (fun h => Int32.not_le.mpr h19 h.1), Int32.add_zero])
          | exact step _ (by rw [if_neg (fun h => Int32.not_lt.mpr h29 h.2), Int32.add_zero])
          | exact step _ (by rw [if_pos ⟨Int32.not_lt.mp h19, Int32.not_le.mp h29⟩]; rfl)
      · refine wp_aload_n dX0_rises_22 rfl ?_
        refine wp_iload_n dX0_rises_23 rfl ?_
        refine wp_iconst (v := 1) dX0_rises_24 (by decide) ?_
        refine wp_iadd dX0_rises_25 ?_
        refine wp_top (z := nI (k + 1)) (ix_add rfl rfl) ?_
        refine wp_cV1 (z := mX0_levelAgo) (n' := 247) kX0_40 dX0_rises_26 (Nat.le_of_ble_eq_true rfl) (Nat.le_of_ble_eq_true rfl) (hT.tg0 hg).1 (by have := hT.lt; omega) (Nat.le_of_ble_eq_true rfl) (Nat.le_refl _) (Nat.le_refl _) (s_X0_levelAgo hT hR hg hG hm hm2 (show k + 1 < m by omega) (wp_af ?_))
        refine wp_top (z := f p) (by rw [hf, Nat.add_assoc, show m - 1 - (k + 1) = p by omega]) ?_
        refine wp_if_ge (tgt := 35) dX0_rises_29 (by decide) (fun h29 => ?_) (fun h29 => ?_)
        · refine wp_iinc (v := nI (k + 1)) (L' := [some (.ref (b + 12 + 2 * g)), some (.int v), some (.int (nI (k + 1)))]) dX0_rises_35 (by decide) rfl (inc_1 _) rfl ?_
          refine wp_goto (tgt := 4) dX0_rises_38 (by decide) ?_
          first
            | exact step _ (by rw [if_neg (fun h => Int32.not_le.mpr h19 h.1), Int32.add_zero])
            | exact step _ (by rw [if_neg (fun h => Int32.not_lt.mpr h29 h.2), Int32.add_zero])
            | exact step _ (by rw [if_pos ⟨Int32.not_lt.mp h19, Int32.not_le.mp h29⟩]; rfl)
        · refine wp_iinc (v := _) (L' := [some (.ref (b + 12 + 2 * g)), some (.int _), some (.int (nI k))]) dX0_rises_32 (by decide) rfl rfl rfl ?_
          refine wp_iinc (v := nI (k + 1)) (L' := [some (.ref (b + 12 + 2 * g)), some (.int _), some (.int (nI (k + 1)))]) dX0_rises_35 (by decide) rfl (inc_1 _) rfl ?_
          refine wp_goto (tgt := 4) dX0_rises_38 (by decide) ?_
          first
            | exact step _ (by rw [if_neg (fun h => Int32.not_le.mpr h19 h.1), Int32.add_zero])
            | exact step _ (by rw [if_neg (fun h => Int32.not_lt.mpr h29 h.2), Int32.add_zero])
            | exact step _ (by rw [if_pos ⟨Int32.not_lt.mp h19, Int32.not_le.mp h29⟩]; rfl)
  refine wp_iconst (v := 0) dX0_rises_0 (by decide) ?_
  refine wp_istore_n (L' := [some (.ref (b + 12 + 2 * g)), some (.int _), none]) dX0_rises_1 (by decide) rfl ?_
  refine wp_iconst (v := 0) dX0_rises_2 (by decide) ?_
  refine wp_istore_n (L' := [some (.ref (b + 12 + 2 * g)), some (.int _), some (.int _)]) dX0_rises_3 (by decide) rfl ?_
  exact loop (m - 1) 0 0 (by omega) (by rw [Int32.zero_add, Nat.sub_zero])
