/-! THE LAW: what its changes do to its own tank -/
theorem cnt_up {pa : Nat → Int32} {c : Nat} {v : Int32} (h0 : pa c = 0) (hv : ¬ v = 0) : ∀ n, cnt (up pa c v) n = cnt pa n + (if c < n then 1 else 0)
  | 0 => by rw [if_neg (by omega)]; rfl
  | n + 1 => by
    have ih := cnt_up h0 hv n
    by_cases e : n = c
    · subst e
      rw [if_neg (by omega)] at ih
      rw [cnt_n (by rw [up_s]; exact hv), ih, cnt_z h0, if_pos (by omega)]
    · by_cases g : pa n = 0
      · rw [cnt_z (by rw [up_n _ _ e]; exact g), cnt_z g, ih]
        by_cases q : c < n
        · rw [if_pos q, if_pos (by omega)]
        · rw [if_neg q, if_neg (by omega)]
      · rw [cnt_n (by rw [up_n _ _ e]; exact g), cnt_n g, ih]
        by_cases q : c < n
        · rw [if_pos q, if_pos (by omega)]
        · rw [if_neg q, if_neg (by omega)]
theorem cnt_dn {pa : Nat → Int32} {c : Nat} (h0 : ¬ pa c = 0) : ∀ n, cnt (up pa c 0) n + (if c < n then 1 else 0) = cnt pa n
  | 0 => by rw [if_neg (by omega)]; rfl
  | n + 1 => by
    have ih := cnt_dn h0 n
    by_cases e : n = c
    · subst e
      rw [if_neg (by omega)] at ih
      rw [cnt_z (up_s _ _ _), cnt_n h0, if_pos (by omega), ← ih]
    · by_cases g : pa n = 0
      · rw [cnt_z (by rw [up_n _ _ e]; exact g), cnt_z g, ← ih]
        by_cases q : c < n
        · rw [if_pos q, if_pos (by omega)]
        · rw [if_neg q, if_neg (by omega)]
      · rw [cnt_n (by rw [up_n _ _ e]; exact g), cnt_n g, ← ih]
        by_cases q : c < n
        · rw [if_pos q, if_pos (by omega)]
        · rw [if_neg q, if_neg (by omega)]
theorem cnt_le_of {pa : Nat → Int32} {a b : Nat} (ha : ¬ pa a = 0) (h : cnt pa b ≤ cnt pa a) : b ≤ a := by
  rcases Nat.lt_or_ge a b with g | g
  · have := cnt_lt g ha
    omega
  · exact g
theorem cnt_lt_of {pa : Nat → Int32} {a b : Nat} (h : cnt pa a < cnt pa b) : a < b := by
  rcases Nat.lt_or_ge a b with g | g
  · exact g
  · have := cnt_mono pa g
    omega
theorem php : ∀ (m : Nat) (f : Nat → Nat), (∀ i j, i < m + 1 → j < m + 1 → f i = f j → i = j) → (∀ i, i < m + 1 → f i < m) → False
  | 0, f, _, h2 => absurd (h2 0 (by omega)) (by omega)
  | m + 1, f, h1, h2 => by
    refine php m (fun i => if f i = m then f (m + 1) else f i) (fun i j hi hj e => ?_) (fun i hi => ?_)
    · have e : (if f i = m then f (m + 1) else f i) = (if f j = m then f (m + 1) else f j) := e
      by_cases a : f i = m
      · rw [if_pos a] at e
        by_cases b : f j = m
        · exact h1 i j (by omega) (by omega) (a.trans b.symm)
        · rw [if_neg b] at e
          have := h1 (m + 1) j (by omega) (by omega) e
          omega
      · rw [if_neg a] at e
        by_cases b : f j = m
        · rw [if_pos b] at e
          have := h1 i (m + 1) (by omega) (by omega) e
          omega
        · rw [if_neg b] at e
          exact h1 i j (by omega) (by omega) e
    · show (if f i = m then f (m + 1) else f i) < m
      have h3 := h2 i (by omega)
      have h4 := h2 (m + 1) (by omega)
      by_cases a : f i = m
      · rw [if_pos a]
        rcases Nat.lt_or_ge (f (m + 1)) m with g | g
        · exact g
        · have := h1 i (m + 1) (by omega) (by omega) (by omega)
          omega
      · rw [if_neg a]
        omega
section
variable {pa re re2 sg ro : Nat → Int32} {np c k : Nat} {so he pe f : Int32}
/-- among six recipes one is free, when there are five paddles at most -/
theorem PL.free (h : PL pa re np sg) (h5 : np ≤ 5) (ha : ∀ j, j < 6 → ∃ i, i < 36 ∧ pa i = nI (j + 1)) : False := by
  obtain ⟨e, he⟩ := Classical.skolem.mp (show ∀ j, ∃ i, j < 6 → i < 36 ∧ pa i = nI (j + 1) from fun j => by
    by_cases q : j < 6
    · obtain ⟨i, h1⟩ := ha j q
      exact ⟨i, fun _ => h1⟩
    · exact ⟨0, fun z => absurd z q⟩)
  have n0 : ∀ j, j < 6 → ¬ pa (e j) = 0 := fun j hj => by rw [(he j hj).2]; exact nI_s0 (by omega)
  refine php 5 (fun j => cnt pa (e j)) (fun i j hi hj q => ?_) (fun i hi => ?_)
  · have := cnt_inj (n0 i hi) (n0 j hj) q
    have h2 := (he i hi).2
    rw [this, (he j hj).2] at h2
    have := (nI_eq (by omega) (by omega)).mp h2
    omega
  · have := h.lt (he i hi).1 (n0 i hi)
    show cnt pa (e i) < 5
    omega
theorem psn_pl (h : PL pa re np sg) (hc : c < 36) (h0 : pa c = 0) : psn sg (nI c) np = cnt pa c := by
  have h36 := h.2.2.1
  have hle := psn_le sg (nI c) np
  rcases Nat.lt_trichotomy (psn sg (nI c) np) (cnt pa c) with g | g | g
  · exfalso
    have hm := cnt_mono pa (show c ≤ 36 by omega)
    obtain ⟨e, e1, e2, e3, e4⟩ := h.cell (k := psn sg (nI c) np) (by omega)
    have q := psn_up sg (nI c) np _ (Nat.le_refl _) (by omega)
    rw [e4] at q
    have := (nI_ltI (by omega) (by omega)).mp q
    have := cnt_lt_of (pa := pa) (a := e) (b := c) (by omega)
    omega
  · exact g
  · exfalso
    obtain ⟨e, e1, e2, e3, e4⟩ := h.cell (k := psn sg (nI c) np - 1) (by omega)
    have q := psn_dn sg (nI c) np (by omega)
    rw [e4] at q
    have h1 := cnt_le_of (pa := pa) (a := e) (b := c) e2 (by omega)
    have h2 : c ≠ e := fun z => e2 (z ▸ h0)
    exact q ((nI_ltI (by omega) (by omega)).mpr (by omega))
theorem PL.put (h : PL pa re np sg) (h0 : pa c = 0) (hc : c < 36) (hk : k < 6) (hfree : ∀ i, i < 36 → ¬ pa i = nI (k + 1)) (e1 : ∀ i, i < 30 → (i < 5 * k ∨ 5 * k + 5 ≤ i) → re2 i = re i) (e2 : ∀ j, j < 5 → re2 (5 * k + j) = nwP (nI c) so he pe f (j + 1)) : PL (up pa c (nI (k + 1))) re2 (np + 1) (inF sg np (nI c) so he pe f) := by
  have hv : ¬ nI (k + 1) = 0 := nI_s0 (by omega)
  have h36 := h.2.2.1
  have hps := psn_pl h hc h0
  have hm := cnt_mono pa (show c ≤ 36 by omega)
  refine ⟨fun i hi => ?_, fun i j hi hj q hn => ?_, by rw [cnt_up h0 hv, if_pos (by omega), h36], fun i q hi hq hp => ?_⟩
  · by_cases e : i = c
    · rw [e, up_s]; exact ⟨k + 1, by omega, rfl⟩
    · rw [up_n _ _ e]; exact h.1 i hi
  · by_cases a : i = c
    · subst a
      rw [up_s] at q
      by_cases b : j = i
      · exact b.symm
      · rw [up_n _ _ b] at q
        exact absurd q.symm (hfree j hj)
    · rw [up_n _ _ a] at q hn
      by_cases b : j = c
      · subst b
        rw [up_s] at q
        exact absurd q (hfree i hi)
      · rw [up_n _ _ b] at q
        exact h.2.1 i j hi hj q hn
  · rw [cnt_up h0 hv]
    by_cases a : i = c
    · subst a
      rw [up_s] at hp
      have hqk := (nI_eq (a := k + 1) (b := q + 1) (by omega) (by omega)).mp hp
      obtain rfl : q = k := by omega
      rw [if_neg (by omega), Nat.add_zero]
      have g := fun j (hj : j < 6) => inF_at (sg := sg) (n := np) (q := cnt pa i) (j := j) (c := nI i) (so := so) (he := he) (pe := pe) (f := f) hj (by omega)
      rw [hps] at g
      refine ⟨(g 0 (by omega)).trans (if_pos rfl), fun j hj => ?_⟩
      have g1 := (g (j + 1) (by omega)).trans (if_pos rfl)
      rw [e2 j hj, ← g1]
      congr 1
      omega
    · rw [up_n _ _ a] at hp
      have n0 : ¬ pa i = 0 := by rw [hp]; exact nI_s0 (by omega)
      have hlt := h.lt hi n0
      have hqk : q ≠ k := fun z => hfree i hi (by rw [hp, z])
      obtain ⟨g1, g2⟩ := h.2.2.2 i q hi hq hp
      by_cases b : c < i
      · have hge := cnt_mono pa (show c ≤ i by omega)
        rw [if_pos b]
        have g := fun j (hj : j < 6) => inF_at (sg := sg) (n := np) (q := cnt pa i + 1) (j := j) (c := nI c) (so := so) (he := he) (pe := pe) (f := f) hj (by omega)
        rw [hps] at g
        have g' : ∀ j, j < 6 → inF sg np (nI c) so he pe f (86 + 6 * (cnt pa i + 1) + j) = sg (86 + 6 * cnt pa i + j) := fun j hj => by
          rw [g j hj, if_neg (by omega), if_neg (by omega), Nat.add_sub_cancel]
        refine ⟨(g' 0 (by omega)).trans g1, fun j hj => ?_⟩
        rw [e1 _ (by omega) (by omega), ← g2 j hj, show 86 + 6 * cnt pa i + 1 + j = 86 + 6 * cnt pa i + (j + 1) by omega, ← g' (j + 1) (by omega)]
        congr 1
        omega
      · have hlt2 := cnt_lt (pa := pa) (show i < c by omega) n0
        rw [if_neg b, Nat.add_zero]
        have g := fun j (hj : j < 6) => inF_at (sg := sg) (n := np) (q := cnt pa i) (j := j) (c := nI c) (so := so) (he := he) (pe := pe) (f := f) hj (by omega)
        rw [hps] at g
        have g' : ∀ j, j < 6 → inF sg np (nI c) so he pe f (86 + 6 * cnt pa i + j) = sg (86 + 6 * cnt pa i + j) := fun j hj => by
          rw [g j hj, if_neg (by omega), if_pos (by omega)]
        refine ⟨(g' 0 (by omega)).trans g1, fun j hj => ?_⟩
        rw [e1 _ (by omega) (by omega), ← g2 j hj, show 86 + 6 * cnt pa i + 1 + j = 86 + 6 * cnt pa i + (j + 1) by omega, ← g' (j + 1) (by omega)]
theorem PL.putin (h : PL pa re np sg) (hc : c < 36) (hk : k < 6) (hp : pa c = nI (k + 1)) (e1 : ∀ i, i < 30 → (i < 5 * k ∨ 5 * k + 5 ≤ i) → re2 i = re i) (e2 : ∀ j, j < 5 → re2 (5 * k + j) = nwP (nI c) so he pe f (j + 1)) (e3 : ∀ q, q < np → ∀ j, j < 6 → ro (86 + 6 * q + j) = pf6 sg (cnt pa c) (nI c) so he pe f (86 + 6 * q + j)) : PL pa re2 np ro := by
  refine ⟨h.1, h.2.1, h.2.2.1, fun i q hi hq hpi => ?_⟩
  have n0 : ¬ pa i = 0 := by rw [hpi]; exact nI_s0 (by omega)
  have nc : ¬ pa c = 0 := by rw [hp]; exact nI_s0 (by omega)
  have hlt := h.lt hi n0
  by_cases a : i = c
  · subst a
    have hqk := (nI_eq (a := k + 1) (b := q + 1) (by omega) (by omega)).mp (hp.symm.trans hpi)
    obtain rfl : q = k := by omega
    have g : ∀ j, j < 6 → ro (86 + 6 * cnt pa i + j) = nwP (nI i) so he pe f j := fun j hj => (e3 _ hlt j hj).trans (pf6_in hj)
    refine ⟨g 0 (by omega), fun j hj => ?_⟩
    rw [e2 j hj, ← g (j + 1) (by omega)]
    congr 1
    omega
  · have hqk : q ≠ k := fun z => a (h.2.1 i c hi hc (by rw [hpi, hp, z]) n0)
    have hce : cnt pa i ≠ cnt pa c := fun z => a (cnt_inj n0 nc z)
    obtain ⟨g1, g2⟩ := h.2.2.2 i q hi hq hpi
    have g : ∀ j, j < 6 → ro (86 + 6 * cnt pa i + j) = sg (86 + 6 * cnt pa i + j) := fun j hj => (e3 _ hlt j hj).trans (pf6_no (by omega))
    refine ⟨(g 0 (by omega)).trans g1, fun j hj => ?_⟩
    rw [e1 _ (by omega) (by omega), ← g2 j hj, show 86 + 6 * cnt pa i + 1 + j = 86 + 6 * cnt pa i + (j + 1) by omega, ← g (j + 1) (by omega)]
theorem PL.lift (h : PL pa re np sg) (hc : c < 36) (h0 : ¬ pa c = 0) : PL (up pa c 0) re (np - 1) (lfF sg np (cnt pa c)) := by
  have h36 := h.2.2.1
  have hd := cnt_dn h0
  refine ⟨fun i hi => ?_, fun i j hi hj q hn => ?_, ?_, fun i q hi hq hp => ?_⟩
  · by_cases e : i = c
    · rw [e, up_s]; exact ⟨0, by omega, rfl⟩
    · rw [up_n _ _ e]; exact h.1 i hi
  · by_cases a : i = c
    · subst a
      rw [up_s] at hn
      exact absurd rfl hn
    · rw [up_n _ _ a] at q hn
      by_cases b : j = c
      · subst b
        rw [up_s] at q
        exact absurd q hn
      · rw [up_n _ _ b] at q
        exact h.2.1 i j hi hj q hn
  · have := hd 36
    rw [if_pos hc] at this
    omega
  · by_cases a : i = c
    · subst a
      rw [up_s] at hp
      exact absurd hp.symm (nI_s0 (by omega))
    · rw [up_n _ _ a] at hp
      have n0 : ¬ pa i = 0 := by rw [hp]; exact nI_s0 (by omega)
      have hlt := h.lt hi n0
      obtain ⟨g1, g2⟩ := h.2.2.2 i q hi hq hp
      have hdi := hd i
      have hcl := h.lt hc h0
      have key : ∀ j, j < 6 → lfF sg np (cnt pa c) (86 + 6 * cnt (up pa c 0) i + j) = sg (86 + 6 * cnt pa i + j) := fun j hj => by
        by_cases b : c < i
        · have h2 := cnt_lt b h0
          rw [if_pos b] at hdi
          rw [lfF_at hj (by omega), if_neg (by omega), hdi]
        · have h2 := cnt_lt (pa := pa) (show i < c by omega) n0
          rw [if_neg b, Nat.add_zero] at hdi
          rw [lfF_at hj (by omega), hdi, if_pos h2]
      refine ⟨(key 0 (by omega)).trans g1, fun j hj => ?_⟩
      rw [← g2 j hj, show 86 + 6 * cnt pa i + 1 + j = 86 + 6 * cnt pa i + (j + 1) by omega, ← key (j + 1) (by omega)]
      congr 1
      omega
end
theorem wy_ok {sg : Nat → Int32} {np c s p g : Nat} {he : Int32} (hc : c < 36) (hs : s < 4) (hh : -999 ≤ he ∧ he ≤ 999) (h1 : 1 ≤ p) (h2 : p ≤ 60) (hg : g < 60) (hn : ¬ (rkU sg (nI c) np = -6 ∧ np = 6)) : whyP sg np (nI c) (nI s) he (nI p) (nI g) = 0 := by
  have le : ∀ {a b : Nat}, a ≤ b → b < 1000 → nI a ≤ nI b := fun h h2 => (nI_leI (by omega) (by omega)).mpr h
  rw [whyP, if_pos ⟨nI_pos' (by omega), le (b := 35) (by omega) (by omega)⟩, if_pos ⟨⟨nI_pos' (by omega), le (b := 3) (by omega) (by omega)⟩, hh, ⟨le (a := 1) h1 (by omega), le (b := 60) h2 (by omega)⟩, nI_pos' (by omega), le (b := 59) (by omega) (by omega)⟩, if_neg hn]
theorem wy_no {sg : Nat → Int32} {np c s p g : Nat} {he : Int32} (hc : c < 36) (hs : s < 4) (hh : -999 ≤ he ∧ he ≤ 999) (h1 : 1 ≤ p) (h2 : p ≤ 60) (hg : g < 60) (hn : rkU sg (nI c) np = -6 ∧ np = 6) : whyP sg np (nI c) (nI s) he (nI p) (nI g) = -4 := by
  have le : ∀ {a b : Nat}, a ≤ b → b < 1000 → nI a ≤ nI b := fun h h2 => (nI_leI (by omega) (by omega)).mpr h
  rw [whyP, if_pos ⟨nI_pos' (by omega), le (b := 35) (by omega) (by omega)⟩, if_pos ⟨⟨nI_pos' (by omega), le (b := 3) (by omega) (by omega)⟩, hh, ⟨le (a := 1) h1 (by omega), le (b := 60) h2 (by omega)⟩, nI_pos' (by omega), le (b := 59) (by omega) (by omega)⟩, if_pos hn]
/-- a number less a half of its range -/
theorem less_in {h a b d : Nat} (h1 : h < a) (h2 : a ≤ 5000) (hb : b ≤ 2000) (hd : a ≤ b + d + 1) (hd2 : d ≤ 5000) : -(nI b) ≤ nI h - nI b ∧ nI h - nI b ≤ nI d := by
  have e := pk_sub_toInt (a := h) (b := b) (by omega) (by omega)
  have eb : (-(nI b)).toInt = -(b : Int) := sb_negT (by omega)
  rw [Int32.le_iff_toInt_le, Int32.le_iff_toInt_le, e, eb, nI_toInt (by omega)]
  omega
section
variable {ga no sg so : Nat → Int32} {s : Nat}
theorem GL.cong (h : GL ga no sg s) (e5 : so 5 = sg 5) (e : ∀ j, 122 ≤ j → j < 184 → so j = sg j) : GL ga no so s := by
  rcases h with ⟨h1, h2, h3⟩ | ⟨c, m, h1, h2, h3, h4, h5, h6, h7, h8⟩
  · exact Or.inl ⟨e5.trans h1, h2, h3⟩
  · exact Or.inr ⟨c, m, h1, h2, e5.trans h3, (e _ (by omega) (by omega)).trans h4, (e _ (by omega) (by omega)).trans h5, h6, h7, fun k hk => by rw [e _ (by omega) (by omega)]; exact h8 k hk⟩
theorem GL.note {ga2 no2 : Nat → Int32} {c m : Nat} (hc : c < 40) (hm : m ≤ 60) (e5 : so 5 = 1) (e122 : so 122 = nI c) (e123 : so 123 = nI m) (g5 : ∀ k, k < m → no ((s + 120000 - k) % 60) = so (124 + (m - 1 - k))) (hno : no2 = up no ((s + 1) % 60) (ntV so 0)) (g0 : ga2 0 = nI c) (g1 : ga2 1 = nI (if m < 60 then m + 1 else 60)) : GL ga2 no2 (nt1 so 0) (s + 1) := by
  have lo : ∀ j, j ≤ 122 → nt1 so 0 j = so j := fun j hj => nt1_same (g := 0) hm e123 (Or.inl (by omega))
  by_cases h60 : m = 60
  · subst h60
    rw [if_neg (by omega)] at g1
    have ent : nt1 so 0 = up (up (up (ntS so 0 60) 123 59) 183 (ntV so 0)) 123 60 := by rw [nt1]; exact if_pos e123
    refine Or.inr ⟨c, 60, hc, by omega, (lo 5 (by omega)).trans e5, (lo 122 (by omega)).trans e122, by rw [ent, up_s]; rfl, g0, g1, fun k hk => ?_⟩
    rw [ent, up_n _ _ (by omega), hno]
    by_cases hk0 : k = 0
    · subst hk0
      rw [show (s + 1 + 120000 - 0) % 60 = (s + 1) % 60 by omega, up_s, show 124 + (60 - 1 - 0) = 183 by omega, up_s]
    · rw [up_n _ _ (by omega), show s + 1 + 120000 - k = s + 120000 - (k - 1) by omega, g5 (k - 1) (by omega), up_n _ _ (by omega), up_n _ _ (by omega), ntS, if_pos (by omega)]
      congr 1
      omega
  · rw [if_pos (by omega)] at g1
    have hne : ¬ nI m = 60 := fun q => h60 ((nI_eq (b := 60) (by omega) (by omega)).mp q)
    have ent : nt1 so 0 = up (up so (124 + m) (ntV so 0)) 123 (nI (m + 1)) := by
      have e : nt1 so 0 = up (up so (122 + 62 * 0 + 2 + (so (122 + 62 * 0 + 1)).toNatClampNeg) (ntV so 0)) (122 + 62 * 0 + 1) (so (122 + 62 * 0 + 1) + 1) := by rw [nt1]; exact if_neg (by rw [show so (122 + 62 * 0 + 1) = nI m from e123]; exact hne)
      rw [e, show so (122 + 62 * 0 + 1) = nI m from e123, nI_clamp (by omega), nI_1]
    refine Or.inr ⟨c, m + 1, hc, by omega, (lo 5 (by omega)).trans e5, (lo 122 (by omega)).trans e122, by rw [ent, up_s], g0, g1, fun k hk => ?_⟩
    rw [ent, up_n _ _ (by omega), hno]
    by_cases hk0 : k = 0
    · subst hk0
      rw [show (s + 1 + 120000 - 0) % 60 = (s + 1) % 60 by omega, up_s, show 124 + (m + 1 - 1 - 0) = 124 + m by omega, up_s]
    · rw [up_n _ _ (by omega), show s + 1 + 120000 - k = s + 120000 - (k - 1) by omega, g5 (k - 1) (by omega), up_n _ _ (by omega)]
      congr 1
      omega
end
theorem stF_st {sg : Nat → Int32} {np ng s : Nat} (h : Ok0 sg np ng) (hs : sg 3 = nI s) : stF np ng sg 3 = nI (s + 1) := by
  rw [stF_lo h (by omega), up_s, stM, bcN_same (by omega), swB_same (by omega), paN_same h.pds (Nat.le_refl _) (by omega) (fun i => by omega), hs, nI_1]
theorem psF_st {sg : Nat → Int32} {np ng s : Nat} (h : Ok0 sg np ng) (hs : sg 3 = nI s) : ∀ i, psF np ng sg i 3 = nI (s + i)
  | 0 => hs
  | i + 1 => stF_st (h.kpsF i) (psF_st h hs i)
theorem stM_hi {sg : Nat → Int32} {np ng : Nat} (h : Ok0 sg np ng) {j : Nat} (hj : j = 5 ∨ 122 ≤ j) : stM np sg j = sg j := by
  have h6 := h.1.2
  rw [stM, bcN_same (by omega), swB_same (by omega)]
  have : ∀ k, k ≤ np → paN sg k j = sg j := by
    intro k
    induction k with
    | zero => intro _; rfl
    | succ k ih =>
      intro hk
      obtain ⟨⟨c, h36, hc⟩, -⟩ := (h.kpaN k (by omega)).pds k (by omega)
      show pa1 (paN sg k) k j = _
      rw [pa1_same hc h36 (by omega) (by omega)]
      exact ih (by omega)
  exact this np (Nat.le_refl _)
/-- between two turns: the class, the law's tank and its gauge stand alike -/
def LawI (M : Mm) (R : Rm) (t : Nat) : Prop := ∃ (sg tx F : Nat → Int32) (rc pl : Nat) (hs S : Nat → Nat → Int32) (s : Nat), IC M R sg rc hs F S tx pl ∧ LT M 234 238 (nP sg) sg ∧ M 235 4 = nI (nP sg) ∧ GL (M 240) (M 241) sg s ∧ sg 3 = nI s ∧ s ≤ 99 * t
