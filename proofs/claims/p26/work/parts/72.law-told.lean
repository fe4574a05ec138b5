/-! THE LAW: ranks and cells; what the class tells, at places that are there -/
theorem cnt_ex {pa : Nat → Int32} {k : Nat} : ∀ {n : Nat}, k < cnt pa n → ∃ c, c < n ∧ ¬ pa c = 0 ∧ cnt pa c = k
  | 0, h => absurd h (Nat.not_lt_zero _)
  | n + 1, h => by
    by_cases e : pa n = 0
    · rw [cnt_z e] at h
      obtain ⟨c, h1, h2, h3⟩ := cnt_ex h
      exact ⟨c, by omega, h2, h3⟩
    · rw [cnt_n e] at h
      by_cases g : k < cnt pa n
      · obtain ⟨c, h1, h2, h3⟩ := cnt_ex g
        exact ⟨c, by omega, h2, h3⟩
      · exact ⟨n, by omega, e, by omega⟩
theorem rkU_or (sg : Nat → Int32) (c : Int32) : ∀ m, rkU sg c m = -6 ∨ ∃ k, k < m ∧ rkU sg c m = nI k
  | 0 => Or.inl rfl
  | m + 1 => by
    by_cases h : sg (86 + 6 * m) = c
    · exact Or.inr ⟨m, by omega, by rw [rkU, if_pos h]⟩
    · rw [rkU, if_neg h]
      rcases rkU_or sg c m with h1 | ⟨k, h1, h2⟩
      · exact Or.inl h1
      · exact Or.inr ⟨k, by omega, h2⟩
section
variable {pa re sg : Nat → Int32} {np ng c : Nat}
/-- the paddle of a rank stands in a cell -/
theorem PL.cell (h : PL pa re np sg) {k : Nat} (hk : k < np) : ∃ e, e < 36 ∧ ¬ pa e = 0 ∧ cnt pa e = k ∧ sg (86 + 6 * k) = nI e := by
  have h1 := h.2.2.1
  obtain ⟨e, g1, g2, g3⟩ := cnt_ex (pa := pa) (k := k) (n := 36) (by omega)
  rcases h.at g1 with q | ⟨j, q1, q2⟩
  · exact absurd q g2
  · have := (h.2.2.2 e j g1 q1 q2).1
    rw [g3] at this
    exact ⟨e, g1, g2, g3, this⟩
theorem rk_no (h : PL pa re np sg) (hc : c < 40) (h0 : c < 36 → pa c = 0) : rkU sg (nI c) np = -6 := by
  refine rkU_none fun k hk q => ?_
  obtain ⟨e, g1, g2, -, g4⟩ := h.cell hk
  have := (nI_eq (a := e) (b := c) (by omega) (by omega)).mp (g4.symm.trans q)
  subst this
  exact g2 (h0 g1)
theorem rk_at (h : PL pa re np sg) (h6 : np ≤ 6) (hc : c < 36) (h0 : ¬ pa c = 0) : rkU sg (nI c) np = nI (cnt pa c) := by
  have hlt := h.lt hc h0
  rcases rkU_or sg (nI c) np with q | ⟨k, q1, q2⟩
  · refine absurd ?_ (rkU_no h6 q _ hlt)
    rcases h.at hc with e | ⟨j, e1, e2⟩
    · exact absurd e h0
    · exact (h.2.2.2 c j hc e1 e2).1
  · obtain ⟨e, g1, g2, g3, g4⟩ := h.cell q1
    have h2 := (rkU_at (k := k) h6 q2 (by omega)).1
    have := (nI_eq (a := e) (b := c) (by omega) (by omega)).mp (g4.symm.trans h2)
    subst this
    rw [q2, g3]
end
/-- the paddles in the cells below c, of 36 -/
def cq (pa : Nat → Int32) (c : Nat) : Nat := cnt pa (min c 36)
theorem cq_le {pa : Nat → Int32} {c : Nat} (h : c ≤ 36) : cq pa c = cnt pa c := by rw [cq, Nat.min_eq_left h]
theorem cq_hi {pa : Nat → Int32} {c : Nat} (h : 36 ≤ c) : cq pa c = cnt pa 36 := by rw [cq, Nat.min_eq_right h]
theorem plcM_z {sg : Nat → Int32} {np c : Nat} {w : Int32} (h : plcV sg np c w = 0) : plcM sg np w (c + 1) = plcM sg np w c ||| (0 : Int64) := by rw [plcM, if_pos h]
theorem plcM_n {sg : Nat → Int32} {np c : Nat} {w : Int32} (h : ¬ plcV sg np c w = 0) : plcM sg np w (c + 1) = plcM sg np w c ||| ((1 : Int64) <<< ((nI c).toInt64 &&& 63)) := by rw [plcM, if_neg h]
theorem or_z (x : Int64) : x ||| 0 = x := Int64.or_zero
theorem cellR_0 (sg : Nat → Int32) (c : Nat) : cellR sg c 0 = sg (6 + c) + 10000 := by rw [cellR, if_pos rfl]
theorem cellR_1 (sg : Nat → Int32) (c : Nat) : cellR sg c 1 = sg (46 + c) + 10000 := by rw [cellR, if_neg (by decide), if_pos rfl]
theorem cellR_2 (sg : Nat → Int32) (c : Nat) : cellR sg c 2 = crest sg c := by rw [cellR, if_neg (by decide), if_neg (by decide), if_pos rfl]
theorem cellR_3 (sg : Nat → Int32) (c : Nat) : cellR sg c 3 = trough sg c := by rw [cellR, if_neg (by decide), if_neg (by decide), if_neg (by decide), if_pos rfl]
theorem i32_sac (x y z : Int32) : x - y + z = x + z - y := by rw [Int32.sub_eq_add_neg, Int32.sub_eq_add_neg, Int32.add_assoc, Int32.add_comm (-y), ← Int32.add_assoc]
theorem ring_at {s k : Nat} (hs : s ≤ 5000) (hk : k ≤ 60) : nI s - nI k + 120000 = nI (s + 120000 - k) := by
  rw [i32_sac, show (120000 : Int32) = nI 120000 from rfl, nI_add, pk_sub (by omega)]
theorem ring_ix {s k : Nat} (hs : s ≤ 5000) (hk : k ≤ 60) : (nI s - nI k + 120000) - (nI s - nI k + 120000) / 60 * 60 = nI ((s + 120000 - k) % 60) := by
  rw [ring_at hs hk, show (60 : Int32) = nI 60 from rfl, pk_rem (by omega) (by omega) (by omega)]
theorem ring_i1 {s k : Nat} (hs : s ≤ 5000) (hk : k < 60) : (nI s - nI k - 1 + 120000) - (nI s - nI k - 1 + 120000) / 60 * 60 = nI ((s + 120000 - (k + 1)) % 60) := by
  rw [show nI s - nI k - 1 = nI s - nI (k + 1) by rw [Int32.sub_sub, nI_1]]
  exact ring_ix hs (by omega)
/-- the law's gauge and the state's, s steps gone -/
def GL (ga no sg : Nat → Int32) (s : Nat) : Prop := (sg 5 = 0 ∧ ga 0 = -1 ∧ ga 1 = 0) ∨ ∃ c m, c < 40 ∧ m ≤ 60 ∧ sg 5 = 1 ∧ sg 122 = nI c ∧ sg 123 = nI m ∧ ga 0 = nI c ∧ ga 1 = nI m ∧ ∀ k, k < m → no ((s + 120000 - k) % 60) = sg (124 + (m - 1 - k))
section
variable {γ : Gm} {l : Launch} {M : Mm} {R : Rm} {K : KT} {sg tx F : Nat → Int32} {rc pl : Nat} {hs S : Nat → Nat → Int32}
theorem s_cell {c : Nat} {w : Int32} (h : IC M R sg rc hs F S tx pl) (hc : c < 40) (hK : K (some (.int (cellR sg c w))) 247 M R) : CL γ l mX5_cell 1 247 247 [.ref 8, .int (nI c), .int w] M R K := by
  refine s_X5_cell h (fun hn => absurd ⟨nI_pos' (by omega), (nI_leI (by omega) (by decide)).mpr (show c ≤ 39 by omega)⟩ hn) (fun k hk e => ?_)
  obtain rfl := (nI_eq (by omega) (by omega)).mp e
  exact hK
theorem s_ofp {k : Nat} {w : Int32} (h : IC M R sg rc hs F S tx pl) (hk : k < nP sg) (hK : K (some (.int (ofpR sg k w))) 247 M R) : CL γ l mX5_ofPaddle 2 247 247 [.ref 8, .int (nI k), .int w] M R K := by
  have h6 := h.ok.p6
  refine s_X5_ofPaddle h (fun hn => absurd ⟨nI_pos' (by omega), (nI_ltI (by omega) (by omega)).mpr hk⟩ hn) (fun j hj e => ?_)
  obtain rfl := (nI_eq (by omega) (by omega)).mp e
  exact hK
theorem s_ofpE {w : Int32} (h : IC M R sg rc hs F S tx pl) (hK : K (some (.int (-1))) 247 M R) : CL γ l mX5_ofPaddle 2 247 247 [.ref 8, .int (nI (nP sg)), .int w] M R K := by
  have h6 := h.ok.p6
  exact s_X5_ofPaddle h (fun _ => hK) (fun j hj e => absurd ((nI_eq (by omega) (by omega)).mp e) (by omega))
theorem s_ofg {m : Nat} {w : Int32} (h : IC M R sg rc hs F S tx pl) (hg : 0 < nG sg) (hm : m ≤ 60) (hv : sg 123 = nI m) (hK : K (some (.int (ofgR sg 0 m w))) 247 M R) : CL γ l mX5_ofGauge 3 247 247 [.ref 8, .int (nI 0), .int w] M R K := by
  have h4 := h.ok.g4
  refine s_X5_ofGauge h (fun hn => absurd ⟨nI_pos' (by omega), (nI_ltI (by omega) (by omega)).mpr hg⟩ hn) (fun j m2 hj hm2 e e2 => ?_)
  obtain rfl := (nI_eq (by omega) (by omega)).mp e
  obtain rfl := (nI_eq (by omega) (by omega)).mp (hv.symm.trans e2)
  exact hK
theorem s_noted {m j : Nat} (h : IC M R sg rc hs F S tx pl) (hg : 0 < nG sg) (hm : m ≤ 60) (hv : sg 123 = nI m) (hj : j < m) (hK : K (some (.int (sg (124 + (m - 1 - j)) + 10000))) 247 M R) : CL γ l mX5_noted 2 247 247 [.ref 8, .int (nI 0), .int (nI j)] M R K := by
  have h4 := h.ok.g4
  refine s_X5_noted h (fun hn => absurd ⟨nI_pos' (by omega), (nI_ltI (by omega) (by omega)).mpr hg⟩ hn) (fun k m2 hk hm2 e e2 hn => ?_) (fun k m2 j2 hk hm2 e e2 hj2 ej => ?_)
  · obtain rfl := (nI_eq (by omega) (by omega)).mp e
    obtain rfl := (nI_eq (by omega) (by omega)).mp (hv.symm.trans e2)
    exact absurd ⟨nI_pos' (by omega), (nI_ltI (by omega) (by omega)).mpr hj⟩ hn
  · obtain rfl := (nI_eq (by omega) (by omega)).mp e
    obtain rfl := (nI_eq (by omega) (by omega)).mp (hv.symm.trans e2)
    obtain rfl := (nI_eq (by omega) (by omega)).mp ej
    rw [show 122 + 62 * 0 + (2 + m - 1 - j) = 124 + (m - 1 - j) by omega]
    exact hK
theorem s_notedE {m : Nat} (h : IC M R sg rc hs F S tx pl) (hm : m ≤ 60) (hv : sg 123 = nI m) (hK : K (some (.int (-1))) 247 M R) : CL γ l mX5_noted 2 247 247 [.ref 8, .int (nI 0), .int (nI m)] M R K := by
  have h4 := h.ok.g4
  refine s_X5_noted h (fun _ => hK) (fun k m2 hk hm2 e e2 hn => hK) (fun k m2 j2 hk hm2 e e2 hj2 ej => ?_)
  obtain rfl := (nI_eq (by omega) (by omega)).mp e
  obtain rfl := (nI_eq (by omega) (by omega)).mp (hv.symm.trans e2)
  have := (nI_eq (by omega) (by omega)).mp ej
  omega
theorem s_plc {w : Nat} (h : IC M R sg rc hs F S tx pl) (hw : w < 5) (hK : K (some (.long (plcM sg (nP sg) (nI w) 40))) 247 M R) : CL γ l mX5_places 3 247 247 [.ref 8, .int (nI w)] M R K :=
  s_X5_places h (fun hn => absurd ⟨nI_pos' (by omega), (nI_leI (by omega) (by decide)).mpr (show w ≤ 4 by omega)⟩ hn) (fun _ => hK)
end
