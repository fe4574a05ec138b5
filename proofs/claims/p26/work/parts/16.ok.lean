/-! WHAT A TANK'S NUMBERS ARE, AND THAT A STEP KEEPS IT -/
def bd (v : Int32) : Prop := -9999 ≤ v ∧ v ≤ 9999
def PdOk (sg : Nat → Int32) (k : Nat) : Prop := (∃ c, c < 36 ∧ sg (86 + 6 * k) = nI c) ∧ (∃ s, s < 4 ∧ sg (86 + 6 * k + 1) = nI s) ∧ (-999 ≤ sg (86 + 6 * k + 2) ∧ sg (86 + 6 * k + 2) ≤ 999) ∧ (∃ p, 1 ≤ p ∧ p ≤ 60 ∧ sg (86 + 6 * k + 3) = nI p) ∧ (∃ f, f < 60 ∧ sg (86 + 6 * k + 4) = nI f) ∧ (sg (86 + 6 * k + 5) = 0 ∨ sg (86 + 6 * k + 5) = 1)
def GgOk (sg : Nat → Int32) (g : Nat) : Prop := (∃ c, c < 40 ∧ sg (122 + 62 * g) = nI c) ∧ ∃ m, m ≤ 60 ∧ sg (122 + 62 * g + 1) = nI m ∧ ∀ i, i < m → bd (sg (122 + 62 * g + 2 + i))
def StOk (sg : Nat → Int32) : Prop := (0 ≤ sg 0 ∧ sg 0 ≤ 100) ∧ (0 ≤ sg 1 ∧ sg 1 ≤ 50) ∧ (1 ≤ sg 2 ∧ sg 2 ≤ 9999)
def Ok0 (sg : Nat → Int32) (np ng : Nat) : Prop := (sg 4 = nI np ∧ np ≤ 6) ∧ (sg 5 = nI ng ∧ ng ≤ 4) ∧ (∀ k, k < np → PdOk sg k) ∧ (∀ i j, i < j → j < np → cel sg i < cel sg j) ∧ (∀ g, g < ng → GgOk sg g) ∧ StOk sg
def BdL (sg : Nat → Int32) : Prop := ∀ c, c < 40 → bd (sg (6 + c)) ∧ bd (sg (46 + c))
theorem Ok0.pds {sg : Nat → Int32} {np ng : Nat} (h : Ok0 sg np ng) : PdS sg np := fun k hk => by
  obtain ⟨h1, -, -, ⟨p, p1, p2, p3⟩, -⟩ := h.2.2.1 k hk
  exact ⟨h1, by rw [p3]; exact nI_ne0 (by omega) (by omega)⟩
theorem Ok0.ggs {sg : Nat → Int32} {np ng : Nat} (h : Ok0 sg np ng) : GgS sg ng := fun g hg => by
  obtain ⟨h1, m, h2, h3, -⟩ := h.2.2.2.2.1 g hg
  exact ⟨h1, m, h2, h3⟩
/-- rows that are the same outside levels, speeds and steps keep it -/
theorem Ok0.congr {sg ro : Nat → Int32} {np ng : Nat} (h : Ok0 sg np ng) (e : ∀ j, j < 3 ∨ j = 4 ∨ j = 5 ∨ 86 ≤ j → ro j = sg j) : Ok0 ro np ng := by
  obtain ⟨⟨a1, a2⟩, ⟨b1, b2⟩, hp, hs, hg, c1, c2, c3⟩ := h
  refine ⟨⟨by rw [e 4 (by omega)]; exact a1, a2⟩, ⟨by rw [e 5 (by omega)]; exact b1, b2⟩, fun k hk => ?_, fun i j hi hj => ?_, fun g hgn => ?_, by rw [e 0 (by omega)]; exact c1, by rw [e 1 (by omega)]; exact c2, by rw [e 2 (by omega)]; exact c3⟩
  · have := hp k hk
    unfold PdOk at this ⊢
    rw [e _ (by omega), e _ (by omega), e _ (by omega), e _ (by omega), e _ (by omega), e _ (by omega)]
    exact this
  · have := hs i j hi hj
    unfold cel at this ⊢
    rw [e _ (by omega), e _ (by omega)]
    exact this
  · obtain ⟨h1, m, h2, h3, h4⟩ := hg g hgn
    exact ⟨by rw [e _ (by omega)]; exact h1, m, h2, by rw [e _ (by omega)]; exact h3, fun i hi => by rw [e _ (by omega)]; exact h4 i hi⟩
theorem bnd_bd (v : Int32) : bd (bnd v) := by
  unfold bnd bd
  split
  · exact ⟨by decide, by decide⟩
  · split
    · exact ⟨by decide, by decide⟩
    · simp only [Int32.lt_iff_toInt_lt, Int32.le_iff_toInt_le] at *
      omega
theorem bd_int {v : Int32} : bd v ↔ -9999 ≤ v.toInt ∧ v.toInt ≤ 9999 := by
  unfold bd
  rw [Int32.le_iff_toInt_le, Int32.le_iff_toInt_le, show (-9999 : Int32).toInt = -9999 by decide, show (9999 : Int32).toInt = 9999 by decide]
theorem i32_bm {x : Int} (h : -2147483648 ≤ x) (h2 : x ≤ 2147483647) : x.bmod (2 ^ 32) = x := Int.bmod_eq_of_le (by omega) (by omega)
theorem mul_int {x z : Int32} (h : -2147483648 ≤ x.toInt * z.toInt) (h2 : x.toInt * z.toInt ≤ 2147483647) : (x * z).toInt = x.toInt * z.toInt := by rw [Int32.toInt_mul, i32_bm h h2]
theorem sub_int {x z : Int32} (h : -2147483648 ≤ x.toInt - z.toInt) (h2 : x.toInt - z.toInt ≤ 2147483647) : (x - z).toInt = x.toInt - z.toInt := by rw [Int32.toInt_sub, i32_bm h h2]
theorem add_int {x z : Int32} (h : -2147483648 ≤ x.toInt + z.toInt) (h2 : x.toInt + z.toInt ≤ 2147483647) : (x + z).toInt = x.toInt + z.toInt := by rw [Int32.toInt_add, i32_bm h h2]
theorem div_int {x z : Int32} (h : -2147483648 ≤ x.toInt.tdiv z.toInt) (h2 : x.toInt.tdiv z.toInt ≤ 2147483647) : (x / z).toInt = x.toInt.tdiv z.toInt := by rw [Int32.toInt_div, i32_bm h h2]
theorem part_pos {v w d : Int} (hd : 0 < d) (hw : 0 ≤ w) (hwd : w ≤ d) (hv : 0 ≤ v) : 0 ≤ (v * w).tdiv d ∧ (v * w).tdiv d ≤ v := by
  refine ⟨Int.tdiv_nonneg (Int.mul_nonneg hv hw) (by omega), ?_⟩
  have h := Int.tdiv_le_tdiv hd (Int.mul_le_mul_of_nonneg_left hwd hv)
  rwa [Int.mul_tdiv_cancel v (by omega)] at h
theorem part_neg {v w d : Int} (hd : 0 < d) (hw : 0 ≤ w) (hwd : w ≤ d) (hv : v ≤ 0) : v ≤ (v * w).tdiv d ∧ (v * w).tdiv d ≤ 0 := by
  have h := part_pos (v := -v) hd hw hwd (by omega)
  rw [Int.neg_mul, Int.neg_tdiv] at h
  omega
theorem mul_bnd {v w : Int} (h1 : -9999 ≤ v) (h2 : v ≤ 9999) (h3 : 0 ≤ w) (h4 : w ≤ 400) : -3999600 ≤ v * w ∧ v * w ≤ 3999600 := by
  have a := Int.mul_le_mul_of_nonneg_right h2 h3
  have b := Int.mul_le_mul_of_nonneg_right h1 h3
  omega
/-- what is lost of a bounded number leaves it bounded -/
theorem bd_loss {v w q : Int32} (hv : bd v) (hw : 0 ≤ w.toInt) (hw2 : w.toInt ≤ q.toInt) (hd : 0 < q.toInt) (hd2 : q.toInt ≤ 400) : bd (v - v * w / q) := by
  rw [bd_int] at hv ⊢
  have m := mul_bnd hv.1 hv.2 hw (by omega)
  have e1 : (v * w).toInt = v.toInt * w.toInt := mul_int (by omega) (by omega)
  rcases Int.le_total 0 v.toInt with h0 | h0
  · have p := part_pos hd hw hw2 h0
    have e2 : (v * w / q).toInt = (v.toInt * w.toInt).tdiv q.toInt := by
      rw [div_int (by rw [e1]; omega) (by rw [e1]; omega), e1]
    rw [sub_int (by rw [e2]; omega) (by rw [e2]; omega), e2]
    omega
  · have p := part_neg hd hw hw2 h0
    have e2 : (v * w / q).toInt = (v.toInt * w.toInt).tdiv q.toInt := by
      rw [div_int (by rw [e1]; omega) (by rw [e1]; omega), e1]
    rw [sub_int (by rw [e2]; omega) (by rw [e2]; omega), e2]
    omega
theorem le_int {x z : Int32} : x ≤ z ↔ x.toInt ≤ z.toInt := Int32.le_iff_toInt_le
theorem StOk.loss {sg : Nat → Int32} (h : StOk sg) : 0 ≤ (sg 1).toInt ∧ (sg 1).toInt ≤ 50 := by
  obtain ⟨-, ⟨h1, h2⟩, -⟩ := h
  rw [le_int] at h1 h2
  exact ⟨h1, h2⟩
theorem StOk.beach {sg : Nat → Int32} (h : StOk sg) : 0 ≤ (sg 0).toInt ∧ (sg 0).toInt ≤ 100 := by
  obtain ⟨⟨h1, h2⟩, -⟩ := h
  rw [le_int] at h1 h2
  exact ⟨h1, h2⟩
theorem spdV_bd {sg : Nat → Int32} (h : StOk sg) (c : Nat) : bd (spdV sg c) := by
  unfold spdV
  have hl := h.loss
  exact bd_loss (bnd_bd _) hl.1 (Int.le_trans hl.2 (by decide)) (by decide) (by decide)
theorem swB_same {sg : Nat → Int32} {j : Nat} (h : j < 6 ∨ 86 ≤ j) : swB sg 40 j = sg j := by rw [swB, if_neg (by omega), swA, if_neg (by omega)]
theorem swB_bdl {sg : Nat → Int32} (h : StOk sg) : BdL (swB sg 40) := by
  intro c hc
  refine ⟨?_, ?_⟩
  · rw [swB, if_pos (by omega)]
    exact bnd_bd _
  · rw [swB, if_neg (by omega), swA, if_pos (by omega)]
    exact spdV_bd h _
theorem bcN_same {sg : Nat → Int32} {j : Nat} (h : j < 6 ∨ 86 ≤ j) : bcN sg 40 j = sg j := bcN_lo (by omega) (by omega)
theorem bcV_bd {sg : Nat → Int32} (h : StOk sg) {c j : Nat} (h1 : 36 ≤ c) (h2 : c < 40) (hb : bd (sg j)) : bd (bcV sg c j) := by
  unfold bcV
  have hl := h.beach
  have e0 : (nI (c - 35)).toInt = ((c - 35 : Nat) : Int) := nI_toInt (by omega)
  have e1 : (sg 0).toInt * (nI (c - 35)).toInt ≤ 100 * 4 := by
    rw [e0]
    exact Int.mul_le_mul hl.2 (by omega) (by omega) (by omega)
  have e2 : 0 ≤ (sg 0).toInt * (nI (c - 35)).toInt := Int.mul_nonneg hl.1 (by omega)
  have e3 : (sg 0 * nI (c - 35)).toInt = (sg 0).toInt * (nI (c - 35)).toInt := mul_int (by omega) (by omega)
  have e4 : (400 : Int32).toInt = 400 := by decide
  exact bd_loss hb (by omega) (by omega) (by omega) (by omega)
theorem bcN_bdl {sg : Nat → Int32} (h : StOk sg) (hb : BdL sg) : BdL (bcN sg 40) := by
  intro c hc
  refine ⟨?_, ?_⟩
  · unfold bcN
    split
    · exact bcV_bd h (by omega) (by omega) (hb c hc).1
    · rw [if_neg (by omega)]
      exact (hb c hc).1
  · rw [bcN, if_neg (by omega)]
    split
    · exact bcV_bd h (by omega) (by omega) (hb c hc).2
    · exact (hb c hc).2
theorem Ok0.kpa1 {sg : Nat → Int32} {np ng k : Nat} (h : Ok0 sg np ng) (hk : k < np) : Ok0 (pa1 sg k) np ng := by
  obtain ⟨⟨c, h36, hc⟩, -⟩ := h.pds k hk
  have h6 := h.1.2
  have e : ∀ j, (j < 6 ∨ 46 ≤ j) → j ≠ 86 + 6 * k + 5 → pa1 sg k j = sg j := fun j => pa1_same hc h36
  have g : pa1 sg k (86 + 6 * k + 5) = sg (86 + 6 * k + 5) ∨ pa1 sg k (86 + 6 * k + 5) = 0 ∨ pa1 sg k (86 + 6 * k + 5) = 1 := by
    have ec : cel sg k = c := by rw [cel, hc, nI_clamp (by omega)]
    unfold pa1
    rw [ec]
    split
    · split
      · exact Or.inr (Or.inl (up_s _ _ _))
      · rw [up_n _ _ (by omega)]
        exact Or.inr (Or.inr (up_s _ _ _))
    · exact Or.inl rfl
  obtain ⟨⟨a1, a2⟩, ⟨b1, b2⟩, hp, hs, hg, c1, c2, c3⟩ := h
  refine ⟨⟨by rw [e 4 (by omega) (by omega)]; exact a1, a2⟩, ⟨by rw [e 5 (by omega) (by omega)]; exact b1, b2⟩, fun i hi => ?_, fun i j hi hj => ?_, fun g hgn => ?_, by rw [e 0 (by omega) (by omega)]; exact c1, by rw [e 1 (by omega) (by omega)]; exact c2, by rw [e 2 (by omega) (by omega)]; exact c3⟩
  · have := hp i hi
    unfold PdOk at this ⊢
    rw [e _ (by omega) (by omega), e _ (by omega) (by omega), e _ (by omega) (by omega), e _ (by omega) (by omega), e _ (by omega) (by omega)]
    refine ⟨this.1, this.2.1, this.2.2.1, this.2.2.2.1, this.2.2.2.2.1, ?_⟩
    by_cases hik : i = k
    · subst hik
      rcases g with g | g | g
      · rw [g]
        exact this.2.2.2.2.2
      · exact Or.inl g
      · exact Or.inr g
    · rw [e _ (by omega) (by omega)]
      exact this.2.2.2.2.2
  · have := hs i j hi hj
    unfold cel at this ⊢
    rw [e _ (by omega) (by omega), e _ (by omega) (by omega)]
    exact this
  · obtain ⟨h1, m, h2, h3, h4⟩ := hg g hgn
    exact ⟨by rw [e _ (by omega) (by omega)]; exact h1, m, h2, by rw [e _ (by omega) (by omega)]; exact h3, fun i hi => by rw [e _ (by omega) (by omega)]; exact h4 i hi⟩
theorem Ok0.kpaN {sg : Nat → Int32} {np ng : Nat} (h : Ok0 sg np ng) : ∀ k, k ≤ np → Ok0 (paN sg k) np ng
  | 0, _ => h
  | k + 1, hk => (Ok0.kpaN h k (by omega)).kpa1 (by omega)
theorem nt1_lo {sg : Nat → Int32} {g m j : Nat} (hm : m ≤ 60) (hn : sg (122 + 62 * g + 1) = nI m) (hj : j ≤ 122 + 62 * g ∨ 184 + 62 * g ≤ j) : nt1 sg g j = sg j := nt1_same hm hn hj
/-- what a gauge knows behind a note: m or one more; each is an old one, or the new -/
theorem nt1_gg {sg : Nat → Int32} {g : Nat} (h : GgOk sg g) (hb : bd (ntV sg g)) : GgOk (nt1 sg g) g := by
  obtain ⟨⟨c, hc, h1⟩, m, h2, h3, h4⟩ := h
  refine ⟨⟨c, hc, by rw [nt1_same h2 h3 (by omega)]; exact h1⟩, ?_⟩
  by_cases h60 : m = 60
  · subst h60
    refine ⟨60, by omega, ?_, fun i hi => ?_⟩
    · rw [nt1, if_pos (by rw [h3]; rfl), up_s]
      rfl
    · rw [nt1, if_pos (by rw [h3]; rfl), up_n _ _ (by omega)]
      by_cases hi2 : i = 59
      · subst hi2
        rw [up_s]
        exact hb
      · rw [up_n _ _ (by omega), up_n _ _ (by omega), ntS, if_pos (by omega), show 122 + 62 * g + 2 + i + 1 = 122 + 62 * g + 2 + (i + 1) by omega]
        exact h4 _ (by omega)
  · have hne : ¬ sg (122 + 62 * g + 1) = 60 := by
      rw [h3]
      exact fun q => h60 ((nI_eq (by omega) (by omega)).mp q)
    refine ⟨m + 1, by omega, ?_, fun i hi => ?_⟩
    · rw [nt1, if_neg hne, up_s, h3, nI_1]
    · rw [nt1, if_neg hne, up_n _ _ (by omega), h3, nI_clamp (by omega)]
      by_cases hi2 : i = m
      · subst hi2
        rw [up_s]
        exact hb
      · rw [up_n _ _ (by omega)]
        exact h4 _ (by omega)
theorem Ok0.knt1 {sg : Nat → Int32} {np ng g : Nat} (h : Ok0 sg np ng) (hb : BdL sg) (hg : g < ng) : Ok0 (nt1 sg g) np ng ∧ BdL (nt1 sg g) := by
  obtain ⟨⟨c, h40, hc⟩, m, hm, hn⟩ := h.ggs g hg
  have e : ∀ j, (j ≤ 122 + 62 * g ∨ 184 + 62 * g ≤ j) → nt1 sg g j = sg j := fun j => nt1_same hm hn
  have hV : bd (ntV sg g) := by
    rw [ntV, hc, nI_clamp (by omega)]
    exact (hb c h40).1
  refine ⟨?_, fun c hc => by rw [e _ (by omega), e _ (by omega)]; exact hb c hc⟩
  obtain ⟨⟨a1, a2⟩, ⟨b1, b2⟩, hp, hs, hgg, c1, c2, c3⟩ := h
  refine ⟨⟨by rw [e 4 (by omega)]; exact a1, a2⟩, ⟨by rw [e 5 (by omega)]; exact b1, b2⟩, fun i hi => ?_, fun i j hi hj => ?_, fun i hi => ?_, by rw [e 0 (by omega)]; exact c1, by rw [e 1 (by omega)]; exact c2, by rw [e 2 (by omega)]; exact c3⟩
  · have := hp i hi
    unfold PdOk at this ⊢
    rw [e _ (by omega), e _ (by omega), e _ (by omega), e _ (by omega), e _ (by omega), e _ (by omega)]
    exact this
  · have := hs i j hi hj
    unfold cel at this ⊢
    rw [e _ (by omega), e _ (by omega)]
    exact this
  · by_cases hig : i = g
    · subst hig
      exact nt1_gg (hgg i hi) hV
    · obtain ⟨h1, m, h2, h3, h4⟩ := hgg i hi
      exact ⟨by rw [e _ (by omega)]; exact h1, m, h2, by rw [e _ (by omega)]; exact h3, fun q hq => by rw [e _ (by omega)]; exact h4 q hq⟩
theorem Ok0.kntN {sg : Nat → Int32} {np ng : Nat} (h : Ok0 sg np ng) (hb : BdL sg) : ∀ g, g ≤ ng → Ok0 (ntN sg g) np ng ∧ BdL (ntN sg g)
  | 0, _ => ⟨h, hb⟩
  | g + 1, hg => by
    have := Ok0.kntN h hb g (by omega)
    exact this.1.knt1 this.2 (by omega)
/-- a step: the numbers behind it, and how many paddles stop -/
def stM (np : Nat) (sg : Nat → Int32) : Nat → Int32 := bcN (swB (paN sg np) 40) 40
def stF (np ng : Nat) (sg : Nat → Int32) : Nat → Int32 := ntN (up (stM np sg) 3 (stM np sg 3 + 1)) ng
def psF (np ng : Nat) (sg : Nat → Int32) : Nat → Nat → Int32
  | 0 => sg
  | i + 1 => stF np ng (psF np ng sg i)
def psC (np ng : Nat) (sg : Nat → Int32) : Nat → Int32
  | 0 => 0
  | i + 1 => psC np ng sg i + pcN (psF np ng sg i) np
theorem Ok0.kstM {sg : Nat → Int32} {np ng : Nat} (h : Ok0 sg np ng) : Ok0 (up (stM np sg) 3 (stM np sg 3 + 1)) np ng ∧ BdL (up (stM np sg) 3 (stM np sg 3 + 1)) := by
  have h1 := h.kpaN np (Nat.le_refl _)
  have h2 : Ok0 (swB (paN sg np) 40) np ng := h1.congr fun j hj => swB_same (by omega)
  have b2 := swB_bdl h1.2.2.2.2.2
  have b3 := bcN_bdl h2.2.2.2.2.2 b2
  refine ⟨h2.congr fun j hj => ?_, fun c hc => ?_⟩
  · rw [up_n _ _ (by omega)]
    exact bcN_same (by omega)
  · rw [up_n _ _ (by omega), up_n _ _ (by omega)]
    exact b3 c hc
theorem Ok0.kstF {sg : Nat → Int32} {np ng : Nat} (h : Ok0 sg np ng) : Ok0 (stF np ng sg) np ng ∧ BdL (stF np ng sg) := h.kstM.1.kntN h.kstM.2 ng (Nat.le_refl _)
theorem Ok0.kpsF {sg : Nat → Int32} {np ng : Nat} (h : Ok0 sg np ng) : ∀ i, Ok0 (psF np ng sg i) np ng
  | 0 => h
  | i + 1 => (Ok0.kpsF h i).kstF.1
theorem BdL.kpsF {sg : Nat → Int32} {np ng : Nat} (h : Ok0 sg np ng) (hb : BdL sg) : ∀ i, BdL (psF np ng sg i)
  | 0 => hb
  | i + 1 => (Ok0.kpsF h i).kstF.2
