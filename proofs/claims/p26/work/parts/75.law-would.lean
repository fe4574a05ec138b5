/-! THE LAW: what would be: how far, calm -/
section
variable {M M1 : Mm} {R : Rm} {sg tx F : Nat → Int32} {rc pl : Nat} {hs S : Nat → Nat → Int32}
/-- the class doesn't see the law's own cells -/
theorem IC.out (h : IC M R sg rc hs F S tx pl) (e0 : ∀ a, a < 235 → M1 a = M a) : IC M1 R sg rc hs F S tx pl :=
  ⟨h.tk.frame h.ib.gr.r9 h.ok.p6 h.ok.g4 fun a _ _ => ⟨e0 a (by omega), rfl⟩, h.ok, h.ib.fr (fun a _ h _ => e0 a h) (by rw [e0 29 (by omega)]) (fun _ _ => rfl) h.ib.gr.r9⟩
end
theorem PL.rec {pa re re2 sg : Nat → Int32} {np : Nat} (h : PL pa re np sg) (e : ∀ i, i < 30 → re2 i = re i) : PL pa re2 np sg :=
  ⟨h.1, h.2.1, h.2.2.1, fun c k hc hk hp => ⟨(h.2.2.2 c k hc hk hp).1, fun j hj => by rw [e _ (by omega)]; exact (h.2.2.2 c k hc hk hp).2 j hj⟩⟩
/-- the law's tank, copied -/
def cpA (M : Mm) : Mm := (up (up (up (up M 242 (cpN (M 235) (M 242) 5)) 243 (cpN ((up M 242 (cpN (M 235) (M 242) 5)) 236) ((up M 242 (cpN (M 235) (M 242) 5)) 243) 40)) 244 (cpN ((up (up M 242 (cpN (M 235) (M 242) 5)) 243 (cpN ((up M 242 (cpN (M 235) (M 242) 5)) 236) ((up M 242 (cpN (M 235) (M 242) 5)) 243) 40)) 237) ((up (up M 242 (cpN (M 235) (M 242) 5)) 243 (cpN ((up M 242 (cpN (M 235) (M 242) 5)) 236) ((up M 242 (cpN (M 235) (M 242) 5)) 243) 40)) 244) 40)) 246 (cpN ((up (up (up M 242 (cpN (M 235) (M 242) 5)) 243 (cpN ((up M 242 (cpN (M 235) (M 242) 5)) 236) ((up M 242 (cpN (M 235) (M 242) 5)) 243) 40)) 244 (cpN ((up (up M 242 (cpN (M 235) (M 242) 5)) 243 (cpN ((up M 242 (cpN (M 235) (M 242) 5)) 236) ((up M 242 (cpN (M 235) (M 242) 5)) 243) 40)) 237) ((up (up M 242 (cpN (M 235) (M 242) 5)) 243 (cpN ((up M 242 (cpN (M 235) (M 242) 5)) 236) ((up M 242 (cpN (M 235) (M 242) 5)) 243) 40)) 244) 40)) 239) ((up (up (up M 242 (cpN (M 235) (M 242) 5)) 243 (cpN ((up M 242 (cpN (M 235) (M 242) 5)) 236) ((up M 242 (cpN (M 235) (M 242) 5)) 243) 40)) 244 (cpN ((up (up M 242 (cpN (M 235) (M 242) 5)) 243 (cpN ((up M 242 (cpN (M 235) (M 242) 5)) 236) ((up M 242 (cpN (M 235) (M 242) 5)) 243) 40)) 237) ((up (up M 242 (cpN (M 235) (M 242) 5)) 243 (cpN ((up M 242 (cpN (M 235) (M 242) 5)) 236) ((up M 242 (cpN (M 235) (M 242) 5)) 243) 40)) 244) 40)) 246) 30))
def cpB (M : Mm) : Mm := (up (up M 243 (cpN (M 236) (M 243) 40)) 244 (cpN ((up M 243 (cpN (M 236) (M 243) 40)) 237) ((up M 243 (cpN (M 236) (M 243) 40)) 244) 40))
theorem cpA_fr (M : Mm) {a : Nat} (h : a < 242) : cpA M a = M a := by
  unfold cpA
  rw [up_n _ _ (by omega), up_n _ _ (by omega), up_n _ _ (by omega), up_n _ _ (by omega)]
theorem cpA_lt {M : Mm} {np : Nat} {sg : Nat → Int32} (h : LT M 234 238 np sg) : LT (cpA M) 241 238 np sg := by
  refine ⟨fun i hi => ?_, fun c hc => ?_, fun c hc => ?_, ?_⟩
  · show cpA M 242 i = _
    unfold cpA
    rw [up_n _ _ (by omega), up_n _ _ (by omega), up_n _ _ (by omega), up_s, cpN, if_pos (by omega)]
    exact h.1 i hi
  · show cpA M 243 c = _
    unfold cpA
    rw [up_n _ _ (by omega), up_n _ _ (by omega), up_s, cpN, if_pos (by omega), up_n _ _ (by omega)]
    exact h.2.1 c hc
  · show cpA M 244 c = _
    unfold cpA
    rw [up_n _ _ (by omega), up_s, cpN, if_pos (by omega), up_n _ _ (by omega), up_n _ _ (by omega)]
    exact h.2.2.1 c hc
  · rw [cpA_fr M (by omega)]
    refine h.pl.rec fun i hi => ?_
    show cpA M 246 i = _
    unfold cpA
    rw [up_s, cpN, if_pos (by omega), up_n _ _ (by omega), up_n _ _ (by omega), up_n _ _ (by omega)]
theorem cpB_fr (M : Mm) {a : Nat} (h : a ≠ 243) (h2 : a ≠ 244) : cpB M a = M a := by
  unfold cpB
  rw [up_n _ _ h2, up_n _ _ h]
theorem cpB_l (M : Mm) {c : Nat} (h : c < 40) : cpB M 243 c = M 236 c := by
  unfold cpB
  rw [up_n _ _ (by omega), up_s, cpN, if_pos h]
theorem cpB_s (M : Mm) {c : Nat} (h : c < 40) : cpB M 244 c = M 237 c := by
  unfold cpB
  rw [up_s, cpN, if_pos h, up_n _ _ (by omega)]
theorem rc_go {g : Nat → Int32} {far : Int32} {n : Nat} (hn : n < 500) (h : g n < far) : rcF g far (500 - n) n = rcF g far (500 - (n + 1)) (n + 1) := by
  obtain ⟨f, hf⟩ : ∃ f, 500 - n = f + 1 := ⟨499 - n, by omega⟩
  rw [hf, show 500 - (n + 1) = f by omega, rcF, if_pos h]
theorem rc_at {g : Nat → Int32} {far : Int32} {n : Nat} (h : ¬ g n < far) (f : Nat) : rcF g far f n = nI n := by
  cases f with
  | zero => rw [rcF, if_neg h]
  | succ f => rw [rcF, if_neg h]
theorem cc_go {g : Nat → Int32} {n : Nat} (hn : n < 500) (h : 0 < g n) : ccF g (500 - n) n = ccF g (500 - (n + 1)) (n + 1) := by
  obtain ⟨f, hf⟩ : ∃ f, 500 - n = f + 1 := ⟨499 - n, by omega⟩
  rw [hf, show 500 - (n + 1) = f by omega, ccF, if_pos h]
theorem cc_at {g : Nat → Int32} {n : Nat} (h : ¬ 0 < g n) (f : Nat) : ccF g f n = nI n := by
  cases f with
  | zero => rw [ccF, if_neg h]
  | succ f => rw [ccF, if_neg h]
/-- what the loop knows of the answer res, n steps gone -/
def RcI (g : Nat → Int32) (far res : Int32) (n : Nat) : Prop := (n ≤ 500 ∧ rcF g far (500 - n) n = res) ∨ (n = 501 ∧ res = -6)
theorem RcI.next {g : Nat → Int32} {far res : Int32} {n : Nat} (h : RcI g far res n) (hn : n < 501) (hg : g n < far) : RcI g far res (n + 1) := by
  rcases h with ⟨h1, h2⟩ | ⟨h1, -⟩
  · by_cases e : n < 500
    · exact Or.inl ⟨by omega, by rw [← rc_go e hg]; exact h2⟩
    · obtain rfl : n = 500 := by omega
      refine Or.inr ⟨rfl, ?_⟩
      rw [← h2, Nat.sub_self, rcF, if_pos hg]
  · omega
def CcI (g : Nat → Int32) (res : Int32) (n : Nat) : Prop := (n ≤ 500 ∧ ccF g (500 - n) n = res) ∨ (n = 501 ∧ res = -6)
theorem CcI.next {g : Nat → Int32} {res : Int32} {n : Nat} (h : CcI g res n) (hn : n < 501) (hg : 0 < g n) : CcI g res (n + 1) := by
  rcases h with ⟨h1, h2⟩ | ⟨h1, -⟩
  · by_cases e : n < 500
    · exact Or.inl ⟨by omega, by rw [← cc_go e hg]; exact h2⟩
    · obtain rfl : n = 500 := by omega
      refine Or.inr ⟨rfl, ?_⟩
      rw [← h2, Nat.sub_self, ccF, if_pos hg]
  · omega
/-- the answer is known -/
def Ans (res : Int32) (n : Nat) : Prop := (n ≤ 500 ∧ res = nI n) ∨ (n = 501 ∧ res = -6)
theorem RcI.hit {g : Nat → Int32} {far res : Int32} {n : Nat} (h : RcI g far res n) (hn : n < 501) (hg : ¬ g n < far) : Ans res n := by
  rcases h with ⟨h1, h2⟩ | ⟨h1, -⟩
  · exact Or.inl ⟨h1, by rw [← h2]; exact rc_at hg _⟩
  · omega
theorem CcI.hit {g : Nat → Int32} {res : Int32} {n : Nat} (h : CcI g res n) (hn : n < 501) (hg : ¬ 0 < g n) : Ans res n := by
  rcases h with ⟨h1, h2⟩ | ⟨h1, -⟩
  · exact Or.inl ⟨h1, by rw [← h2]; exact cc_at hg _⟩
  · omega
theorem stF_3 {sg : Nat → Int32} {np ng : Nat} (h : Ok0 sg np ng) {j : Nat} (hj : j < 3) : stF np ng sg j = sg j := by
  rw [stF_lo h (by omega), up_n _ _ (by omega), stM, bcN_same (by omega), swB_same (by omega)]
  exact paN_same h.pds (Nat.le_refl _) (by omega) (fun i => by omega)
theorem psF_3 {sg : Nat → Int32} {np ng : Nat} (h : Ok0 sg np ng) {j : Nat} (hj : j < 3) : ∀ i, psF np ng sg i j = sg j
  | 0 => rfl
  | i + 1 => (stF_3 (h.kpsF i) hj).trans (psF_3 h hj i)
/-- without paddles the steps don't matter -/
theorem stM_z {sg so : Nat → Int32} (e : ∀ j, j ≠ 3 → j < 122 → so j = sg j) : ∀ j, j ≠ 3 → j < 122 → stM 0 so j = stM 0 sg j := by
  intro j hj h1
  have e1 : ∀ c, c < 40 → spdV so c = spdV sg c := fun c hc => by
    unfold spdV
    rw [e _ (by omega) (by omega), e (6 + (if c = 0 then c else c - 1)) (by omega) (by split <;> omega), e (6 + (if c = 39 then c else c + 1)) (by omega) (by split <;> omega), e (6 + c) (by omega) (by omega), e 1 (by omega) (by omega)]
  have e2 : ∀ i, i ≠ 3 → i < 122 → swB so 40 i = swB sg 40 i := fun i hi h2 => by
    unfold swB
    by_cases g : 6 ≤ i ∧ i < 6 + 40
    · rw [if_pos g, if_pos g, e i hi h2, e1 _ (by omega)]
    · rw [if_neg g, if_neg g]
      unfold swA
      by_cases g2 : 46 ≤ i ∧ i < 46 + 40
      · rw [if_pos g2, if_pos g2, e1 _ (by omega)]
      · rw [if_neg g2, if_neg g2, e i hi h2]
  show bcN (swB so 40) 40 j = bcN (swB sg 40) 40 j
  unfold bcN
  by_cases g : 42 ≤ j ∧ j < 6 + 40
  · rw [if_pos g, if_pos g, bcV, bcV, e2 j hj h1, e2 0 (by omega) (by omega)]
  · rw [if_neg g, if_neg g]
    by_cases g2 : 82 ≤ j ∧ j < 46 + 40
    · rw [if_pos g2, if_pos g2, bcV, bcV, e2 j hj h1, e2 0 (by omega) (by omega)]
    · rw [if_neg g2, if_neg g2, e2 j hj h1]
theorem psF_z {sg so : Nat → Int32} {ng : Nat} (h : Ok0 sg 0 ng) (h2 : Ok0 so 0 ng) (e : ∀ j, j ≠ 3 → j < 122 → so j = sg j) : ∀ i j, j ≠ 3 → j < 122 → psF 0 ng so i j = psF 0 ng sg i j
  | 0, j, hj, h1 => e j hj h1
  | i + 1, j, hj, h1 => by
    show stF 0 ng (psF 0 ng so i) j = stF 0 ng (psF 0 ng sg i) j
    rw [stF_lo (h2.kpsF i) h1, stF_lo (h.kpsF i) h1, up_n _ _ hj, up_n _ _ hj]
    exact stM_z (psF_z h h2 e i) j hj h1
theorem swN_cong {sg so : Nat → Int32} (e : ∀ j, 6 ≤ j → j < 86 → so j = sg j) : ∀ c, c ≤ 40 → swN so c = swN sg c
  | 0, _ => rfl
  | c + 1, h => by rw [swN, swN, swN_cong e c (by omega), e (6 + c) (by omega) (by omega), e (46 + c) (by omega) (by omega)]
theorem Ok0.u3 {sg : Nat → Int32} {np ng : Nat} (h : Ok0 sg np ng) (v : Int32) : Ok0 (up sg 3 v) np ng := h.congr fun j hj => up_n _ _ (by omega)
section
variable {γ : Gm} {l : Launch} {M : Mm} {R : Rm} {K : KT} {sg tx F : Nat → Int32} {rc pl : Nat} {hs S : Nat → Nat → Int32}
theorem s_rch {c : Nat} {far : Int32} (h : IC M R sg rc hs F S tx pl) (hc : c < 40) (hf : 1 ≤ far ∧ far ≤ 9999) (hK : ∀ M1, IC M1 R sg rc hs F S tx pl → FC M M1 R R → K (some (.int (rcF (fun i => szI (psF (nP sg) (nG sg) sg i (6 + c))) far 500 0))) 247 M1 R) : CL γ l mX5_reaches 4 247 247 [.ref 8, .int (nI c), .int far] M R K := by
  refine s_X5_reaches h (fun hn => absurd ⟨nI_pos' (by omega), (nI_leI (by omega) (by decide)).mpr (show c ≤ 39 by omega)⟩ hn) (fun _ hn => absurd hf hn) (fun k hk e _ M1 c1 f1 => ?_)
  obtain rfl := (nI_eq (by omega) (by omega)).mp e
  exact hK M1 c1 f1
end
/-- the cells below k are calm, or not -/
def CI (so : Nat → Int32) (k : Nat) (v : Int32) : Prop := (¬ v = 0 ∧ ∀ j, j < k → so (6 + j) = 0 ∧ so (46 + j) = 0) ∨ (v = 0 ∧ ∃ j, j < k ∧ ¬ (so (6 + j) = 0 ∧ so (46 + j) = 0))
theorem CI.z {so : Nat → Int32} {k : Nat} {v : Int32} (h : CI so k v) (h0 : v = 0) : CI so (k + 1) 0 := by
  rcases h with h | ⟨-, j, hj, h1⟩
  · exact absurd h0 h.1
  · exact Or.inr ⟨rfl, j, by omega, h1⟩
theorem CI.l {so : Nat → Int32} {k : Nat} (h : ¬ so (6 + k) = 0) : CI so (k + 1) 0 := Or.inr ⟨rfl, k, by omega, fun q => h q.1⟩
theorem CI.s {so : Nat → Int32} {k : Nat} (h : ¬ so (46 + k) = 0) : CI so (k + 1) 0 := Or.inr ⟨rfl, k, by omega, fun q => h q.2⟩
theorem CI.n {so : Nat → Int32} {k : Nat} {v : Int32} (h : CI so k v) (h0 : ¬ v = 0) (h1 : so (6 + k) = 0) (h2 : so (46 + k) = 0) : CI so (k + 1) 1 := by
  rcases h with ⟨-, h⟩ | h
  · refine Or.inl ⟨by decide, fun j hj => ?_⟩
    by_cases e : j = k
    · rw [e]
      exact ⟨h1, h2⟩
    · exact h j (by omega)
  · exact absurd h.1 h0
theorem far_in {f : Nat} (h : 1 ≤ f) (h2 : f ≤ 9999) : 1 ≤ nI f ∧ nI f ≤ 9999 := ⟨(nI_leI (a := 1) (by omega) (by omega)).mpr h, (nI_leI (b := 9999) (by omega) (by omega)).mpr h2⟩
set_option maxRecDepth 100000 in
set_option maxHeartbeats 4000000 in
theorem wd_37 {γ : Gm} {l : Launch} {M : Mm} {R : Rm} {K : KT} {x : Int32} {sg tx F : Nat → Int32} {rc pl : Nat} {hs S : Nat → Nat → Int32} {c far : Nat} {t14 t15 t16 t17 t18 t19 t20 t21 t22 t23 : Option Value} (hc : IC M R sg rc hs F S tx pl) (hl : LT M 234 238 (nP sg) sg) (hc4 : c < 40) (hf1 : 1 ≤ far) (hf2 : far ≤ 9999) (kk : ∀ M1 (t14 t15 t16 t17 t18 t19 t20 t21 t22 t23 : Option Value), IC M1 R sg rc hs F S tx pl → (∀ a, 235 ≤ a → a < 242 → M1 a = M a) → (∀ i, i < 3 → M1 242 i = sg i) → WP γ l mL_would 7 247 247 142 [some (.ref 8), some (.int x), some (.ref 235), some (.ref 236), some (.ref 237), some (.ref 238), some (.ref 239), some (.ref 242), some (.ref 243), some (.ref 244), some (.ref 245), some (.ref 246), some (.int (nI c)), some (.int (nI far)), t14, t15, t16, t17, t18, t19, t20, t21, t22, t23] [] 247 M1 R K)  : WP γ l mL_would 7 247 247 37 [some (.ref 8), some (.int x), some (.ref 235), some (.ref 236), some (.ref 237), some (.ref 238), some (.ref 239), some (.ref 242), some (.ref 243), some (.ref 244), some (.ref 245), some (.ref 246), some (.int (nI c)), some (.int (nI far)), t14, t15, t16, t17, t18, t19, t20, t21, t22, t23] [] 247 M R K := by
  have h6 := hc.ok.p6
  have hS : SA 241 238 := Or.inr (Or.inl ⟨rfl, rfl⟩)
  obtain ⟨res, hres⟩ : ∃ res, res = rcF (fun i => szI (psF (nP sg) (nG sg) sg i (6 + c))) (nI far) 500 0 := ⟨_, rfl⟩
  have hfar := far_in hf1 hf2
  have s114 : ∀ (n : Nat) (M2 : Mm) (t15 t16 t17 t18 t19 t20 t21 t22 t23 : Option Value), Ans res n → (∀ a, a < 242 → M2 a = M a) → (∀ i, i < 3 → M2 242 i = sg i) → WP γ l mL_would 7 247 247 114 [some (.ref 8), some (.int x), some (.ref 235), some (.ref 236), some (.ref 237), some (.ref 238), some (.ref 239), some (.ref 242), some (.ref 243), some (.ref 244), some (.ref 245), some (.ref 246), some (.int (nI c)), some (.int (nI far)), some (.int (nI n)), t15, t16, t17, t18, t19, t20, t21, t22, t23] [] 247 M2 R K := by
    intro n M2 t15 t16 t17 t18 t19 t20 t21 t22 t23 ha hF h3
    have c2 := hc.out (M1 := M2) (fun a h => hF a (by omega))
    refine wp_drop [some (.ref 8), some (.int x), some (.ref 235), some (.ref 236), some (.ref 237), some (.ref 238), some (.ref 239), some (.ref 242), some (.ref 243), some (.ref 244), some (.ref 245), some (.ref 246), some (.int (nI c)), some (.int (nI far)), some (.int (nI n)), none, none, none, none, none, none, none, none, none] (by simp [leL]) ?_
    refine wp_aload_n dL_would_114 rfl ?_
    refine wp_iload dL_would_115 rfl ?_
    refine wp_iload dL_would_117 rfl ?_
    refine wp_cV2 (z := mX5_reaches) (n' := 247) kL_58 dL_would_119 (Nat.le_of_ble_eq_true rfl) (Nat.le_of_ble_eq_true rfl) tA_8 (Nat.le_of_ble_eq_true rfl) (Nat.le_of_ble_eq_true rfl) (Nat.le_refl _) (Nat.le_refl _) (s_rch c2 hc4 hfar (fun M3 c3 f3 => (wp_af ?_)))
    refine wp_top (z := res) hres.symm ?_
    have hn : n ≤ 501 := by rcases ha with ⟨a1, _⟩ | ⟨a1, _⟩ <;> omega
    refine wp_iload dL_would_122 rfl ?_
    refine wp_sipush (v := 501) dL_would_124 (by decide) ?_
    refine wp_icN_ge (a := n) (b := 501) (tgt := 135) dL_would_127 (by decide) rfl rfl (by omega) (by omega) (fun h127 => ?_) (fun h127 => ?_)
    · refine wp_bipush (v := (-6)) dL_would_135 (by decide) ?_
      refine wp_icmp_eq (tgt := 142) dL_would_137 (by decide) (fun h137 => ?_) (fun h137 => (by rcases ha with ⟨a1, a2⟩ | ⟨a1, a2⟩ <;> first | exact absurd a2 h137 | omega))
      exact kk M3 _ _ _ _ _ _ _ _ _ _ c3 (fun a a1 a2 => by rw [(f3 a (by omega)).1]; exact hF a a2) (fun i hi => by rw [(f3 242 (by omega)).1]; exact h3 i hi)
    · refine wp_iload dL_would_130 rfl ?_
      refine wp_goto (tgt := 137) dL_would_132 (by decide) ?_
      refine wp_icmp_eq (tgt := 142) dL_would_137 (by decide) (fun h137 => ?_) (fun h137 => (by rcases ha with ⟨a1, a2⟩ | ⟨a1, a2⟩ <;> first | exact absurd a2 h137 | omega))
      exact kk M3 _ _ _ _ _ _ _ _ _ _ c3 (fun a a1 a2 => by rw [(f3 a (by omega)).1]; exact hF a a2) (fun i hi => by rw [(f3 242 (by omega)).1]; exact h3 i hi)
  have loop : ∀ (q n : Nat) (M2 : Mm) (t15 t16 t17 t18 t19 t20 t21 t22 t23 : Option Value), q + n = 501 → RcI (fun i => szI (psF (nP sg) (nG sg) sg i (6 + c))) (nI far) res n → LT M2 241 238 (nP sg) (psF (nP sg) (nG sg) sg n) → (∀ a, a < 242 → M2 a = M a) → WP γ l mL_would 7 247 247 73 [some (.ref 8), some (.int x), some (.ref 235), some (.ref 236), some (.ref 237), some (.ref 238), some (.ref 239), some (.ref 242), some (.ref 243), some (.ref 244), some (.ref 245), some (.ref 246), some (.int (nI c)), some (.int (nI far)), some (.int (nI n)), t15, t16, t17, t18, t19, t20, t21, t22, t23] [] 247 M2 R K := by
    intro q
    induction q with
    | zero =>
      intro n M2 t15 t16 t17 t18 t19 t20 t21 t22 t23 hq hr hl2 hF
      obtain rfl : n = 501 := by omega
      refine wp_drop [some (.ref 8), some (.int x), some (.ref 235), some (.ref 236), some (.ref 237), some (.ref 238), some (.ref 239), some (.ref 242), some (.ref 243), some (.ref 244), some (.ref 245), some (.ref 246), some (.int (nI c)), some (.int (nI far)), some (.int (nI 501)), none, none, none, none, none, none, none, none, none] (by simp [leL]) ?_
      refine wp_iload dL_would_73 rfl ?_
      refine wp_sipush (v := 501) dL_would_75 (by decide) ?_
      refine wp_icN_ge (a := 501) (b := 501) (tgt := 114) dL_would_78 (by decide) rfl rfl (by omega) (by omega) (fun _ => ?_) (fun h => absurd h (by decide))
      exact s114 _ M2 _ _ _ _ _ _ _ _ _ (hr.elim (fun h => absurd h.1 (by omega)) Or.inr) hF (fun i hi => (hl2.q (by omega)).trans (psF_3 hc.ok.1 hi _))
    | succ q ih =>
      intro n M2 t15 t16 t17 t18 t19 t20 t21 t22 t23 hq hr hl2 hF
      have hn : n < 501 := by omega
      refine wp_drop [some (.ref 8), some (.int x), some (.ref 235), some (.ref 236), some (.ref 237), some (.ref 238), some (.ref 239), some (.ref 242), some (.ref 243), some (.ref 244), some (.ref 245), some (.ref 246), some (.int (nI c)), some (.int (nI far)), some (.int (nI n)), none, none, none, none, none, none, none, none, none] (by simp [leL]) ?_
      refine wp_iload dL_would_73 rfl ?_
      refine wp_sipush (v := 501) dL_would_75 (by decide) ?_
      refine wp_icN_ge (a := n) (b := 501) (tgt := 114) dL_would_78 (by decide) rfl rfl (by omega) (by omega) (fun h78 => absurd h78 (by omega)) (fun h78 => ?_)
      refine wp_aload dL_would_81 rfl ?_
      refine wp_iload dL_would_83 rfl ?_
      refine wp_iadn (i := c) rfl tA_243 (Nat.le_of_ble_eq_true rfl) (by rw [lA_243]; omega) (Nat.le_of_ble_eq_true rfl) dL_would_85 (hl2.l (by omega)) ?_
      refine wp_cS1 (z := mL_abs) (n' := 247) kL_10 dL_would_86 (Nat.le_of_ble_eq_true rfl) (Nat.le_of_ble_eq_true rfl) (Nat.le_of_ble_eq_true rfl) (Nat.le_refl _) (Nat.le_refl _) (s_L_abs (wp_af ?_))
      refine wp_iload dL_would_89 rfl ?_
      refine wp_icmp_ge (tgt := 114) dL_would_91 (by decide) (fun h91 => ?_) (fun h91 => ?_)
      · exact s114 _ M2 _ _ _ _ _ _ _ _ _ (hr.hit hn (Int32.not_lt.mpr h91)) hF (fun i hi => (hl2.q (by omega)).trans (psF_3 hc.ok.1 hi _))
      · refine wp_aload dL_would_94 rfl ?_
        refine wp_aload dL_would_96 rfl ?_
        refine wp_aload dL_would_98 rfl ?_
        refine wp_aload dL_would_100 rfl ?_
        refine wp_aload dL_would_102 rfl ?_
        refine wp_cS5 (z := mL_step) (n' := 247) kL_54 dL_would_104 (Nat.le_of_ble_eq_true rfl) (Nat.le_of_ble_eq_true rfl) (Nat.le_of_ble_eq_true rfl) (Nat.le_refl _) (Nat.le_refl _) (s_L_step hS hl2 (hc.ok.1.kpsF n) (fun M3 f3 l3 => (wp_af ?_)))
        refine wp_pop dL_would_107 rfl ?_
        refine wp_iinc (v := nI (n + 1)) (L' := [some (.ref 8), some (.int x), some (.ref 235), some (.ref 236), some (.ref 237), some (.ref 238), some (.ref 239), some (.ref 242), some (.ref 243), some (.ref 244), some (.ref 245), some (.ref 246), some (.int (nI c)), some (.int (nI far)), some (.int (nI (n + 1))), none, none, none, none, none, none, none, none, none]) dL_would_108 (by decide) rfl (inc_1 _) rfl ?_
        refine wp_goto (tgt := 73) dL_would_111 (by decide) ?_
        exact ih (n + 1) M3 _ _ _ _ _ _ _ _ _ (by omega) (hr.next hn (Int32.not_le.mp h91)) l3 (fun a ha => by rw [f3.1 a (by omega) (by omega) (by omega) (by omega)]; exact hF a ha)
  refine wp_drop [some (.ref 8), some (.int x), some (.ref 235), some (.ref 236), some (.ref 237), some (.ref 238), some (.ref 239), some (.ref 242), some (.ref 243), some (.ref 244), some (.ref 245), some (.ref 246), some (.int (nI c)), some (.int (nI far)), none, none, none, none, none, none, none, none, none, none] (by simp [leL]) ?_
  refine wp_aload_n dL_would_37 rfl ?_
  refine wp_aload dL_would_38 rfl ?_
  refine wp_iconst (v := 5) dL_would_40 (by decide) ?_
  refine wp_cS3 (z := mL_copy) (n' := 247) kL_50 dL_would_41 (Nat.le_of_ble_eq_true rfl) (Nat.le_of_ble_eq_true rfl) (Nat.le_of_ble_eq_true rfl) (Nat.le_refl _) (Nat.le_refl _) (s_L_copy (m := 5) ar_235 ar_242 (by decide) (Nat.le_refl _) (Nat.le_refl _) (by decide) (wp_af0 ?_))
  refine wp_aload_n dL_would_44 rfl ?_
  refine wp_aload dL_would_45 rfl ?_
  refine wp_bipush (v := 40) dL_would_47 (by decide) ?_
  refine wp_cS3 (z := mL_copy) (n' := 247) kL_50 dL_would_49 (Nat.le_of_ble_eq_true rfl) (Nat.le_of_ble_eq_true rfl) (Nat.le_of_ble_eq_true rfl) (Nat.le_refl _) (Nat.le_refl _) (s_L_copy (m := 40) ar_236 ar_243 (by decide) (Nat.le_refl _) (Nat.le_refl _) (by decide) (wp_af0 ?_))
  refine wp_aload dL_would_52 rfl ?_
  refine wp_aload dL_would_54 rfl ?_
  refine wp_bipush (v := 40) dL_would_56 (by decide) ?_
  refine wp_cS3 (z := mL_copy) (n' := 247) kL_50 dL_would_58 (Nat.le_of_ble_eq_true rfl) (Nat.le_of_ble_eq_true rfl) (Nat.le_of_ble_eq_true rfl) (Nat.le_refl _) (Nat.le_refl _) (s_L_copy (m := 40) ar_237 ar_244 (by decide) (Nat.le_refl _) (Nat.le_refl _) (by decide) (wp_af0 ?_))
  refine wp_aload dL_would_61 rfl ?_
  refine wp_aload dL_would_63 rfl ?_
  refine wp_bipush (v := 30) dL_would_65 (by decide) ?_
  refine wp_cS3 (z := mL_copy) (n' := 247) kL_50 dL_would_67 (Nat.le_of_ble_eq_true rfl) (Nat.le_of_ble_eq_true rfl) (Nat.le_of_ble_eq_true rfl) (Nat.le_refl _) (Nat.le_refl _) (s_L_copy (m := 30) ar_239 ar_246 (by decide) (Nat.le_refl _) (Nat.le_refl _) (by decide) (wp_af0 ?_))
  refine wp_mem (M' := cpA M) rfl ?_
  refine wp_iconst (v := 0) dL_would_70 (by decide) ?_
  refine wp_istore (L' := [some (.ref 8), some (.int x), some (.ref 235), some (.ref 236), some (.ref 237), some (.ref 238), some (.ref 239), some (.ref 242), some (.ref 243), some (.ref 244), some (.ref 245), some (.ref 246), some (.int (nI c)), some (.int (nI far)), some (.int _), none, none, none, none, none, none, none, none, none]) dL_would_71 (by decide) rfl ?_
  exact loop 501 0 (cpA M) _ _ _ _ _ _ _ _ _ rfl (Or.inl ⟨by omega, hres.symm⟩) (cpA_lt hl) (fun a ha => cpA_fr M ha)

set_option maxRecDepth 100000 in
set_option maxHeartbeats 4000000 in
theorem wd_142 {γ : Gm} {l : Launch} {M : Mm} {R : Rm} {K : KT} {x : Int32} {sg tx F : Nat → Int32} {rc pl : Nat} {hs S : Nat → Nat → Int32} {c far : Nat} {t14 t15 t16 t17 t18 t19 t20 t21 t22 t23 : Option Value} (hc : IC M R sg rc hs F S tx pl) (hl : LT M 234 238 (nP sg) sg) (h3 : ∀ i, i < 3 → M 242 i = sg i) (kk : ∀ M1 (t14 t15 t16 t17 t18 t19 t20 t21 t22 t23 : Option Value), IC M1 R sg rc hs F S tx pl → (∀ a, 235 ≤ a → a < 242 → M1 a = M a) → WP γ l mL_would 7 247 247 296 [some (.ref 8), some (.int x), some (.ref 235), some (.ref 236), some (.ref 237), some (.ref 238), some (.ref 239), some (.ref 242), some (.ref 243), some (.ref 244), some (.ref 245), some (.ref 246), some (.int (nI c)), some (.int (nI far)), t14, t15, t16, t17, t18, t19, t20, t21, t22, t23] [] 247 M1 R K)  : WP γ l mL_would 7 247 247 142 [some (.ref 8), some (.int x), some (.ref 235), some (.ref 236), some (.ref 237), some (.ref 238), some (.ref 239), some (.ref 242), some (.ref 243), some (.ref 244), some (.ref 245), some (.ref 246), some (.int (nI c)), some (.int (nI far)), t14, t15, t16, t17, t18, t19, t20, t21, t22, t23] [] 247 M R K := by
  have hS : SA 241 245 := Or.inr (Or.inr ⟨rfl, rfl⟩)
  have hz := hc.ok.1.none
  obtain ⟨res, hres⟩ : ∃ res, res = ccF (fun i => swN (psF 0 (nG sg) (up sg 4 0) i) 40) 500 0 := ⟨_, rfl⟩
  have s272 : ∀ (n : Nat) (M2 : Mm) (t15 t16 t17 t18 t19 t20 t21 t22 t23 : Option Value), Ans res n → (∀ a, a < 242 → M2 a = M a) → WP γ l mL_would 7 247 247 272 [some (.ref 8), some (.int x), some (.ref 235), some (.ref 236), some (.ref 237), some (.ref 238), some (.ref 239), some (.ref 242), some (.ref 243), some (.ref 244), some (.ref 245), some (.ref 246), some (.int (nI c)), some (.int (nI far)), some (.int (nI n)), t15, t16, t17, t18, t19, t20, t21, t22, t23] [] 247 M2 R K := by
    intro n M2 t15 t16 t17 t18 t19 t20 t21 t22 t23 ha hF
    have c2 := hc.out (M1 := M2) (fun a h => hF a (by omega))
    refine wp_drop [some (.ref 8), some (.int x), some (.ref 235), some (.ref 236), some (.ref 237), some (.ref 238), some (.ref 239), some (.ref 242), some (.ref 243), some (.ref 244), some (.ref 245), some (.ref 246), some (.int (nI c)), some (.int (nI far)), some (.int (nI n)), none, none, none, none, none, none, none, none, none] (by simp [leL]) ?_
    refine wp_aload_n dL_would_272 rfl ?_
    refine wp_cV0 (z := mX5_calmIn) (n' := 247) kL_61 dL_would_273 (Nat.le_of_ble_eq_true rfl) (Nat.le_of_ble_eq_true rfl) tA_8 (Nat.le_of_ble_eq_true rfl) (Nat.le_of_ble_eq_true rfl) (Nat.le_refl _) (Nat.le_refl _) (s_X5_calmIn c2 (fun M3 c3 f3 => (wp_af ?_)))
    refine wp_top (z := res) hres.symm ?_
    have hn : n ≤ 501 := by rcases ha with ⟨a1, _⟩ | ⟨a1, _⟩ <;> omega
    refine wp_iload dL_would_276 rfl ?_
    refine wp_sipush (v := 501) dL_would_278 (by decide) ?_
    refine wp_icN_ge (a := n) (b := 501) (tgt := 289) dL_would_281 (by decide) rfl rfl (by omega) (by omega) (fun h281 => ?_) (fun h281 => ?_)
    · refine wp_bipush (v := (-6)) dL_would_289 (by decide) ?_
      refine wp_icmp_eq (tgt := 296) dL_would_291 (by decide) (fun h291 => ?_) (fun h291 => (by rcases ha with ⟨a1, a2⟩ | ⟨a1, a2⟩ <;> first | exact absurd a2 h291 | omega))
      exact kk M3 _ _ _ _ _ _ _ _ _ _ c3 (fun a a1 a2 => by rw [(f3 a (by omega)).1]; exact hF a a2)
    · refine wp_iload dL_would_284 rfl ?_
      refine wp_goto (tgt := 291) dL_would_286 (by decide) ?_
      refine wp_icmp_eq (tgt := 296) dL_would_291 (by decide) (fun h291 => ?_) (fun h291 => (by rcases ha with ⟨a1, a2⟩ | ⟨a1, a2⟩ <;> first | exact absurd a2 h291 | omega))
      exact kk M3 _ _ _ _ _ _ _ _ _ _ c3 (fun a a1 a2 => by rw [(f3 a (by omega)).1]; exact hF a a2)
  have s181 : ∀ (M4 : Mm) (t14 t15 t16 t17 t18 t19 t20 t21 t22 t23 : Option Value), (∀ a, a < 242 → M4 a = M a) → (∃ v, LT M4 241 245 0 (up (up sg 4 0) 3 v)) → WP γ l mL_would 7 247 247 181 [some (.ref 8), some (.int x), some (.ref 235), some (.ref 236), some (.ref 237), some (.ref 238), some (.ref 239), some (.ref 242), some (.ref 243), some (.ref 244), some (.ref 245), some (.ref 246), some (.int (nI c)), some (.int (nI far)), t14, t15, t16, t17, t18, t19, t20, t21, t22, t23] [] 247 M4 R K := by
    intro M4 t14 t15 t16 t17 t18 t19 t20 t21 t22 t23 hF4 ⟨v3, hl4⟩
    obtain ⟨sz, hsz⟩ : ∃ sz, sz = up (up sg 4 0) 3 v3 := ⟨_, rfl⟩
    have hoz : Ok0 sz 0 (nG sg) := by rw [hsz]; exact hz.u3 v3
    have ez := psF_z hz hoz (fun j hj _ => by rw [hsz]; exact up_n _ _ hj)
    have hbz : ∀ n, BdL (psF 0 (nG sg) sz n) := BdL.kpsF hoz (hc.ok.2.same fun j h1 h2 => by rw [hsz, up_n _ _ (by omega), up_n _ _ (by omega)])
    have esw : ∀ n, swN (psF 0 (nG sg) sz n) 40 = swN (psF 0 (nG sg) (up sg 4 0) n) 40 := fun n => swN_cong (fun j h1 h2 => ez n j (by omega) (by omega)) 40 (Nat.le_refl _)
    rw [← hsz] at hl4
    have loop : ∀ (q n : Nat) (v15 : Int32) (M2 : Mm) (t16 t17 t18 t19 t20 t21 t22 t23 : Option Value), q + n = 501 → v15 = 0 → CcI (fun i => swN (psF 0 (nG sg) (up sg 4 0) i) 40) res n → LT M2 241 245 0 (psF 0 (nG sg) sz n) → (∀ a, a < 242 → M2 a = M a) → WP γ l mL_would 7 247 247 187 [some (.ref 8), some (.int x), some (.ref 235), some (.ref 236), some (.ref 237), some (.ref 238), some (.ref 239), some (.ref 242), some (.ref 243), some (.ref 244), some (.ref 245), some (.ref 246), some (.int (nI c)), some (.int (nI far)), some (.int (nI n)), some (.int v15), t16, t17, t18, t19, t20, t21, t22, t23] [] 247 M2 R K := by
      intro q
      induction q with
      | zero =>
        intro n v15 M2 t16 t17 t18 t19 t20 t21 t22 t23 hq hv hr hl2 hF
        obtain rfl : n = 501 := by omega
        refine wp_drop [some (.ref 8), some (.int x), some (.ref 235), some (.ref 236), some (.ref 237), some (.ref 238), some (.ref 239), some (.ref 242), some (.ref 243), some (.ref 244), some (.ref 245), some (.ref 246), some (.int (nI c)), some (.int (nI far)), some (.int (nI 501)), some (.int v15), none, none, none, none, none, none, none, none] (by simp [leL]) ?_
        refine wp_iload dL_would_187 rfl ?_
        refine wp_sipush (v := 501) dL_would_189 (by decide) ?_
        refine wp_icN_ge (a := 501) (b := 501) (tgt := 272) dL_would_192 (by decide) rfl rfl (by omega) (by omega) (fun _ => ?_) (fun h => absurd h (by decide))
        exact s272 _ M2 _ _ _ _ _ _ _ _ _ (hr.elim (fun h => absurd h.1 (by omega)) Or.inr) hF
      | succ q ih =>
        intro n v15 M2 t16 t17 t18 t19 t20 t21 t22 t23 hq hv hr hl2 hF
        have hn : n < 501 := by omega
        obtain ⟨so, hso⟩ : ∃ so, so = psF 0 (nG sg) sz n := ⟨_, rfl⟩
        have hw := sw_in (hbz n) 40 (Nat.le_refl _)
        have e0 : (0 : Int32).toInt = 0 := by decide
        have inner : ∀ (q k : Nat) (v15 : Int32) (t17 t18 t19 t20 t21 t22 t23 : Option Value), q + k = 40 → CI so k v15 → WP γ l mL_would 7 247 247 206 [some (.ref 8), some (.int x), some (.ref 235), some (.ref 236), some (.ref 237), some (.ref 238), some (.ref 239), some (.ref 242), some (.ref 243), some (.ref 244), some (.ref 245), some (.ref 246), some (.int (nI c)), some (.int (nI far)), some (.int (nI n)), some (.int v15), some (.int (nI k)), t17, t18, t19, t20, t21, t22, t23] [] 247 M2 R K := by
          intro q2
          induction q2 with
          | zero =>
            intro k v15 t17 t18 t19 t20 t21 t22 t23 hq2 hi
            obtain rfl : k = 40 := by omega
            refine wp_drop [some (.ref 8), some (.int x), some (.ref 235), some (.ref 236), some (.ref 237), some (.ref 238), some (.ref 239), some (.ref 242), some (.ref 243), some (.ref 244), some (.ref 245), some (.ref 246), some (.int (nI c)), some (.int (nI far)), some (.int (nI n)), some (.int v15), some (.int (nI 40)), none, none, none, none, none, none, none] (by simp [leL]) ?_
            refine wp_iload dL_would_206 rfl ?_
            refine wp_bipush (v := 40) dL_would_208 (by decide) ?_
            refine wp_icN_ge (a := 40) (b := 40) (tgt := 247) dL_would_210 (by decide) rfl rfl (by omega) (by omega) (fun _ => ?_) (fun h => absurd h (by decide))
            refine wp_iload dL_would_247 rfl ?_
            refine wp_if_ne (tgt := 187) dL_would_249 (by decide) (fun h249 => ?_) (fun h249 => ?_)
            · refine wp_iload dL_would_187 rfl ?_
              refine wp_sipush (v := 501) dL_would_189 (by decide) ?_
              refine wp_icN_ge (a := n) (b := 501) (tgt := 272) dL_would_192 (by decide) rfl rfl (by omega) (by omega) (fun h192 => absurd h192 (by omega)) (fun h192 => ?_)
              refine wp_iload dL_would_195 rfl ?_
              refine wp_if_ne (tgt := 272) dL_would_197 (by decide) (fun h197 => ?_) (fun h197 => absurd h197 h249)
              exact s272 _ M2 _ _ _ _ _ _ _ _ _ (hr.hit hn (by
                have g := hi.elim (fun h => h.2) (fun h => absurd h.1 h249)
                rw [← esw, Int32.lt_iff_toInt_lt, e0]
                have := hw.2.2.mpr (fun j hj => by rw [← hso]; exact g j hj)
                omega)) hF
            · refine wp_aload dL_would_252 rfl ?_
              refine wp_aload dL_would_254 rfl ?_
              refine wp_aload dL_would_256 rfl ?_
              refine wp_aload dL_would_258 rfl ?_
              refine wp_aload dL_would_260 rfl ?_
              refine wp_cS5 (z := mL_step) (n' := 247) kL_54 dL_would_262 (Nat.le_of_ble_eq_true rfl) (Nat.le_of_ble_eq_true rfl) (Nat.le_of_ble_eq_true rfl) (Nat.le_refl _) (Nat.le_refl _) (s_L_step hS hl2 (hoz.kpsF n) (fun M3 f3 l3 => (wp_af ?_)))
              refine wp_pop dL_would_265 rfl ?_
              refine wp_iinc (v := nI (n + 1)) (L' := [some (.ref 8), some (.int x), some (.ref 235), some (.ref 236), some (.ref 237), some (.ref 238), some (.ref 239), some (.ref 242), some (.ref 243), some (.ref 244), some (.ref 245), some (.ref 246), some (.int (nI c)), some (.int (nI far)), some (.int (nI (n + 1))), some (.int v15), some (.int _), none, none, none, none, none, none, none]) dL_would_266 (by decide) rfl (inc_1 _) rfl ?_
              refine wp_goto (tgt := 187) dL_would_269 (by decide) ?_
              exact ih (n + 1) v15 M3 _ _ _ _ _ _ _ _ (by omega) h249 (hr.next hn (by
                obtain ⟨j, hj, hnj⟩ := hi.elim (fun h => absurd h249 h.1) (fun h => h.2)
                show 0 < swN (psF 0 (nG sg) (up sg 4 0) n) 40
                rw [← esw, Int32.lt_iff_toInt_lt, e0]
                have : ¬ (swN (psF 0 (nG sg) sz n) 40).toInt = 0 := fun h => hnj (by rw [hso]; exact hw.2.2.mp h j hj)
                omega)) l3 (fun a ha => by rw [f3.1 a (by omega) (by omega) (by omega) (by omega)]; exact hF a ha)
          | succ q2 ih2 =>
            intro k v15 t17 t18 t19 t20 t21 t22 t23 hq2 hi
            refine wp_drop [some (.ref 8), some (.int x), some (.ref 235), some (.ref 236), some (.ref 237), some (.ref 238), some (.ref 239), some (.ref 242), some (.ref 243), some (.ref 244), some (.ref 245), some (.ref 246), some (.int (nI c)), some (.int (nI far)), some (.int (nI n)), some (.int v15), some (.int (nI k)), none, none, none, none, none, none, none] (by simp [leL]) ?_
            refine wp_iload dL_would_206 rfl ?_
            refine wp_bipush (v := 40) dL_would_208 (by decide) ?_
            refine wp_icN_ge (a := k) (b := 40) (tgt := 247) dL_would_210 (by decide) rfl rfl (by omega) (by omega) (fun h210 => absurd h210 (by omega)) (fun h210 => ?_)
            refine wp_iload dL_would_213 rfl ?_
            refine wp_if_eq (tgt := 238) dL_would_215 (by decide) (fun h215 => ?_) (fun h215 => ?_)
            · refine wp_iconst (v := 0) dL_would_238 (by decide) ?_
              refine wp_istore (L' := [some (.ref 8), some (.int x), some (.ref 235), some (.ref 236), some (.ref 237), some (.ref 238), some (.ref 239), some (.ref 242), some (.ref 243), some (.ref 244), some (.ref 245), some (.ref 246), some (.int (nI c)), some (.int (nI far)), some (.int (nI n)), some (.int _), some (.int (nI k)), none, none, none, none, none, none, none]) dL_would_239 (by decide) rfl ?_
              refine wp_iinc (v := nI (k + 1)) (L' := [some (.ref 8), some (.int x), some (.ref 235), some (.ref 236), some (.ref 237), some (.ref 238), some (.ref 239), some (.ref 242), some (.ref 243), some (.ref 244), some (.ref 245), some (.ref 246), some (.int (nI c)), some (.int (nI far)), some (.int (nI n)), some (.int _), some (.int (nI (k + 1))), none, none, none, none, none, none, none]) dL_would_241 (by decide) rfl (inc_1 _) rfl ?_
              refine wp_goto (tgt := 206) dL_would_244 (by decide) ?_
              exact ih2 (k + 1) _ _ _ _ _ _ _ _ (by omega) (by
                first
                  | exact CI.z hi h215
                  | exact CI.l h223
                  | exact CI.s h231
                  | exact CI.n hi h215 h223 h231)
            · refine wp_aload dL_would_218 rfl ?_
              refine wp_iload dL_would_220 rfl ?_
              refine wp_iadn (i := k) rfl tA_243 (Nat.le_of_ble_eq_true rfl) (by rw [lA_243]; omega) (Nat.le_of_ble_eq_true rfl) dL_would_222 ((hl2.l (by omega)).trans (congrFun hso.symm _)) ?_
              refine wp_if_ne (tgt := 238) dL_would_223 (by decide) (fun h223 => ?_) (fun h223 => ?_)
              · refine wp_iconst (v := 0) dL_would_238 (by decide) ?_
                refine wp_istore (L' := [some (.ref 8), some (.int x), some (.ref 235), some (.ref 236), some (.ref 237), some (.ref 238), some (.ref 239), some (.ref 242), some (.ref 243), some (.ref 244), some (.ref 245), some (.ref 246), some (.int (nI c)), some (.int (nI far)), some (.int (nI n)), some (.int _), some (.int (nI k)), none, none, none, none, none, none, none]) dL_would_239 (by decide) rfl ?_
                refine wp_iinc (v := nI (k + 1)) (L' := [some (.ref 8), some (.int x), some (.ref 235), some (.ref 236), some (.ref 237), some (.ref 238), some (.ref 239), some (.ref 242), some (.ref 243), some (.ref 244), some (.ref 245), some (.ref 246), some (.int (nI c)), some (.int (nI far)), some (.int (nI n)), some (.int _), some (.int (nI (k + 1))), none, none, none, none, none, none, none]) dL_would_241 (by decide) rfl (inc_1 _) rfl ?_
                refine wp_goto (tgt := 206) dL_would_244 (by decide) ?_
                exact ih2 (k + 1) _ _ _ _ _ _ _ _ (by omega) (by
                  first
                    | exact CI.z hi h215
                    | exact CI.l h223
                    | exact CI.s h231
                    | exact CI.n hi h215 h223 h231)
              · refine wp_aload dL_would_226 rfl ?_
                refine wp_iload dL_would_228 rfl ?_
                refine wp_iadn (i := k) rfl tA_244 (Nat.le_of_ble_eq_true rfl) (by rw [lA_244]; omega) (Nat.le_of_ble_eq_true rfl) dL_would_230 ((hl2.s (by omega)).trans (congrFun hso.symm _)) ?_
                refine wp_if_ne (tgt := 238) dL_would_231 (by decide) (fun h231 => ?_) (fun h231 => ?_)
                · refine wp_iconst (v := 0) dL_would_238 (by decide) ?_
                  refine wp_istore (L' := [some (.ref 8), some (.int x), some (.ref 235), some (.ref 236), some (.ref 237), some (.ref 238), some (.ref 239), some (.ref 242), some (.ref 243), some (.ref 244), some (.ref 245), some (.ref 246), some (.int (nI c)), some (.int (nI far)), some (.int (nI n)), some (.int _), some (.int (nI k)), none, none, none, none, none, none, none]) dL_would_239 (by decide) rfl ?_
                  refine wp_iinc (v := nI (k + 1)) (L' := [some (.ref 8), some (.int x), some (.ref 235), some (.ref 236), some (.ref 237), some (.ref 238), some (.ref 239), some (.ref 242), some (.ref 243), some (.ref 244), some (.ref 245), some (.ref 246), some (.int (nI c)), some (.int (nI far)), some (.int (nI n)), some (.int _), some (.int (nI (k + 1))), none, none, none, none, none, none, none]) dL_would_241 (by decide) rfl (inc_1 _) rfl ?_
                  refine wp_goto (tgt := 206) dL_would_244 (by decide) ?_
                  exact ih2 (k + 1) _ _ _ _ _ _ _ _ (by omega) (by
                    first
                      | exact CI.z hi h215
                      | exact CI.l h223
                      | exact CI.s h231
                      | exact CI.n hi h215 h223 h231)
                · refine wp_iconst (v := 1) dL_would_234 (by decide) ?_
                  refine wp_goto (tgt := 239) dL_would_235 (by decide) ?_
                  refine wp_istore (L' := [some (.ref 8), some (.int x), some (.ref 235), some (.ref 236), some (.ref 237), some (.ref 238), some (.ref 239), some (.ref 242), some (.ref 243), some (.ref 244), some (.ref 245), some (.ref 246), some (.int (nI c)), some (.int (nI far)), some (.int (nI n)), some (.int _), some (.int (nI k)), none, none, none, none, none, none, none]) dL_would_239 (by decide) rfl ?_
                  refine wp_iinc (v := nI (k + 1)) (L' := [some (.ref 8), some (.int x), some (.ref 235), some (.ref 236), some (.ref 237), some (.ref 238), some (.ref 239), some (.ref 242), some (.ref 243), some (.ref 244), some (.ref 245), some (.ref 246), some (.int (nI c)), some (.int (nI far)), some (.int (nI n)), some (.int _), some (.int (nI (k + 1))), none, none, none, none, none, none, none]) dL_would_241 (by decide) rfl (inc_1 _) rfl ?_
                  refine wp_goto (tgt := 206) dL_would_244 (by decide) ?_
                  exact ih2 (k + 1) _ _ _ _ _ _ _ _ (by omega) (by
                    first
                      | exact CI.z hi h215
                      | exact CI.l h223
                      | exact CI.s h231
                      | exact CI.n hi h215 h223 h231)
        refine wp_drop [some (.ref 8), some (.int x), some (.ref 235), some (.ref 236), some (.ref 237), some (.ref 238), some (.ref 239), some (.ref 242), some (.ref 243), some (.ref 244), some (.ref 245), some (.ref 246), some (.int (nI c)), some (.int (nI far)), some (.int (nI n)), some (.int v15), none, none, none, none, none, none, none, none] (by simp [leL]) ?_
        refine wp_iload dL_would_187 rfl ?_
        refine wp_sipush (v := 501) dL_would_189 (by decide) ?_
        refine wp_icN_ge (a := n) (b := 501) (tgt := 272) dL_would_192 (by decide) rfl rfl (by omega) (by omega) (fun h192 => absurd h192 (by omega)) (fun h192 => ?_)
        refine wp_iload dL_would_195 rfl ?_
        refine wp_if_ne (tgt := 272) dL_would_197 (by decide) (fun h197 => absurd hv h197) (fun h197 => ?_)
        refine wp_iconst (v := 1) dL_would_200 (by decide) ?_
        refine wp_istore (L' := [some (.ref 8), some (.int x), some (.ref 235), some (.ref 236), some (.ref 237), some (.ref 238), some (.ref 239), some (.ref 242), some (.ref 243), some (.ref 244), some (.ref 245), some (.ref 246), some (.int (nI c)), some (.int (nI far)), some (.int (nI n)), some (.int _), none, none, none, none, none, none, none, none]) dL_would_201 (by decide) rfl ?_
        refine wp_iconst (v := 0) dL_would_203 (by decide) ?_
        refine wp_istore (L' := [some (.ref 8), some (.int x), some (.ref 235), some (.ref 236), some (.ref 237), some (.ref 238), some (.ref 239), some (.ref 242), some (.ref 243), some (.ref 244), some (.ref 245), some (.ref 246), some (.int (nI c)), some (.int (nI far)), some (.int (nI n)), some (.int _), some (.int _), none, none, none, none, none, none, none]) dL_would_204 (by decide) rfl ?_
        exact inner 40 0 _ _ _ _ _ _ _ _ rfl (Or.inl ⟨by decide, fun j hj => absurd hj (by omega)⟩)
    refine wp_drop [some (.ref 8), some (.int x), some (.ref 235), some (.ref 236), some (.ref 237), some (.ref 238), some (.ref 239), some (.ref 242), some (.ref 243), some (.ref 244), some (.ref 245), some (.ref 246), some (.int (nI c)), some (.int (nI far)), none, none, none, none, none, none, none, none, none, none] (by simp [leL]) ?_
    refine wp_iconst (v := 0) dL_would_181 (by decide) ?_
    refine wp_istore (L' := [some (.ref 8), some (.int x), some (.ref 235), some (.ref 236), some (.ref 237), some (.ref 238), some (.ref 239), some (.ref 242), some (.ref 243), some (.ref 244), some (.ref 245), some (.ref 246), some (.int (nI c)), some (.int (nI far)), some (.int _), none, none, none, none, none, none, none, none, none]) dL_would_182 (by decide) rfl ?_
    refine wp_iconst (v := 0) dL_would_184 (by decide) ?_
    refine wp_istore (L' := [some (.ref 8), some (.int x), some (.ref 235), some (.ref 236), some (.ref 237), some (.ref 238), some (.ref 239), some (.ref 242), some (.ref 243), some (.ref 244), some (.ref 245), some (.ref 246), some (.int (nI c)), some (.int (nI far)), some (.int _), some (.int _), none, none, none, none, none, none, none, none]) dL_would_185 (by decide) rfl ?_
    exact loop 501 0 _ M4 _ _ _ _ _ _ _ _ rfl rfl (Or.inl ⟨by omega, hres.symm⟩) hl4 hF4
  have zer : ∀ (q k : Nat) (t14 t16 t17 t18 t19 t20 t21 t22 t23 : Option Value), q + k = 36 → WP γ l mL_would 7 247 247 162 [some (.ref 8), some (.int x), some (.ref 235), some (.ref 236), some (.ref 237), some (.ref 238), some (.ref 239), some (.ref 242), some (.ref 243), some (.ref 244), some (.ref 245), some (.ref 246), some (.int (nI c)), some (.int (nI far)), t14, some (.int (nI k)), t16, t17, t18, t19, t20, t21, t22, t23] [] 247 (up (cpB M) 245 (cpN (fun _ => 0) (cpB M 245) k)) R K := by
    intro q
    induction q with
    | zero =>
      intro k t14 t16 t17 t18 t19 t20 t21 t22 t23 hq
      obtain rfl : k = 36 := by omega
      refine wp_drop [some (.ref 8), some (.int x), some (.ref 235), some (.ref 236), some (.ref 237), some (.ref 238), some (.ref 239), some (.ref 242), some (.ref 243), some (.ref 244), some (.ref 245), some (.ref 246), some (.int (nI c)), some (.int (nI far)), none, some (.int (nI 36)), none, none, none, none, none, none, none, none] (by simp [leL]) ?_
      refine wp_iload dL_would_162 rfl ?_
      refine wp_bipush (v := 36) dL_would_164 (by decide) ?_
      refine wp_icN_ge (a := 36) (b := 36) (tgt := 181) dL_would_166 (by decide) rfl rfl (by omega) (by omega) (fun _ => ?_) (fun h => absurd h (by decide))
      refine s181 _ _ _ _ _ _ _ _ _ _ _ (fun a ha => by rw [up_n _ _ (by omega), cpB_fr M (by omega) (by omega)]) ⟨M 242 3, fun i hi => ?_, fun c hc2 => ?_, fun c hc2 => ?_, fun c hc2 => ⟨0, by omega, ?_⟩, fun c e hc2 he _ hn => absurd ?_ hn, ?_, fun c k hc2 hk hp => absurd ?_ (nI_s0 (show k < 100 by omega))⟩
      · show (up (cpB M) 245 _) 242 i = _
        rw [up_n _ _ (by omega), cpB_fr M (by omega) (by omega)]
        by_cases e : i = 3
        · rw [e, up_s]
        · rw [up_n _ _ e, up_n _ _ (by omega)]
          exact h3 i (by omega)
      · show (up (cpB M) 245 _) 243 c = _
        rw [up_n _ _ (by omega), cpB_l M hc2, up_n _ _ (by omega), up_n _ _ (by omega)]
        exact hl.l hc2
      · show (up (cpB M) 245 _) 244 c = _
        rw [up_n _ _ (by omega), cpB_s M hc2, up_n _ _ (by omega), up_n _ _ (by omega)]
        exact hl.s hc2
      · rw [up_s, cpN, if_pos hc2]
        rfl
      · rw [up_s, cpN, if_pos hc2]
      · rw [up_s]
        exact (cnt_congr (pb := fun _ => 0) fun j hj => by rw [cpN, if_pos hj]).trans (by decide)
      · rw [← hp, up_s, cpN, if_pos hc2]
    | succ q ih =>
      intro k t14 t16 t17 t18 t19 t20 t21 t22 t23 hq
      refine wp_drop [some (.ref 8), some (.int x), some (.ref 235), some (.ref 236), some (.ref 237), some (.ref 238), some (.ref 239), some (.ref 242), some (.ref 243), some (.ref 244), some (.ref 245), some (.ref 246), some (.int (nI c)), some (.int (nI far)), none, some (.int (nI k)), none, none, none, none, none, none, none, none] (by simp [leL]) ?_
      refine wp_iload dL_would_162 rfl ?_
      refine wp_bipush (v := 36) dL_would_164 (by decide) ?_
      refine wp_icN_ge (a := k) (b := 36) (tgt := 181) dL_would_166 (by decide) rfl rfl (by omega) (by omega) (fun h166 => absurd h166 (by omega)) (fun h166 => ?_)
      refine wp_aload dL_would_169 rfl ?_
      refine wp_iload dL_would_171 rfl ?_
      refine wp_iconst (v := 0) dL_would_173 (by decide) ?_
      refine wp_iast (i := k) rfl tA_245 (Nat.le_of_ble_eq_true rfl) (by rw [lA_245]; omega) (Nat.le_of_ble_eq_true rfl) dL_would_174 ?_
      refine wp_iinc (v := nI (k + 1)) (L' := [some (.ref 8), some (.int x), some (.ref 235), some (.ref 236), some (.ref 237), some (.ref 238), some (.ref 239), some (.ref 242), some (.ref 243), some (.ref 244), some (.ref 245), some (.ref 246), some (.int (nI c)), some (.int (nI far)), none, some (.int (nI (k + 1))), none, none, none, none, none, none, none, none]) dL_would_175 (by decide) rfl (inc_1 _) rfl ?_
      refine wp_goto (tgt := 162) dL_would_178 (by decide) ?_
      refine wp_mem (M' := up (cpB M) 245 (cpN (fun _ => 0) (cpB M 245) (k + 1))) (by rw [u2_up, ← cpN_s]) ?_
      exact ih (k + 1) _ _ _ _ _ _ _ _ _ (by omega)
  refine wp_drop [some (.ref 8), some (.int x), some (.ref 235), some (.ref 236), some (.ref 237), some (.ref 238), some (.ref 239), some (.ref 242), some (.ref 243), some (.ref 244), some (.ref 245), some (.ref 246), some (.int (nI c)), some (.int (nI far)), none, none, none, none, none, none, none, none, none, none] (by simp [leL]) ?_
  refine wp_aload_n dL_would_142 rfl ?_
  refine wp_aload dL_would_143 rfl ?_
  refine wp_bipush (v := 40) dL_would_145 (by decide) ?_
  refine wp_cS3 (z := mL_copy) (n' := 247) kL_50 dL_would_147 (Nat.le_of_ble_eq_true rfl) (Nat.le_of_ble_eq_true rfl) (Nat.le_of_ble_eq_true rfl) (Nat.le_refl _) (Nat.le_refl _) (s_L_copy (m := 40) ar_236 ar_243 (by decide) (Nat.le_refl _) (Nat.le_refl _) (by decide) (wp_af0 ?_))
  refine wp_aload dL_would_150 rfl ?_
  refine wp_aload dL_would_152 rfl ?_
  refine wp_bipush (v := 40) dL_would_154 (by decide) ?_
  refine wp_cS3 (z := mL_copy) (n' := 247) kL_50 dL_would_156 (Nat.le_of_ble_eq_true rfl) (Nat.le_of_ble_eq_true rfl) (Nat.le_of_ble_eq_true rfl) (Nat.le_refl _) (Nat.le_refl _) (s_L_copy (m := 40) ar_237 ar_244 (by decide) (Nat.le_refl _) (Nat.le_refl _) (by decide) (wp_af0 ?_))
  refine wp_mem (M' := cpB M) rfl ?_
  refine wp_iconst (v := 0) dL_would_159 (by decide) ?_
  refine wp_istore (L' := [some (.ref 8), some (.int x), some (.ref 235), some (.ref 236), some (.ref 237), some (.ref 238), some (.ref 239), some (.ref 242), some (.ref 243), some (.ref 244), some (.ref 245), some (.ref 246), some (.int (nI c)), some (.int (nI far)), none, some (.int _), none, none, none, none, none, none, none, none]) dL_would_160 (by decide) rfl ?_
  refine wp_mem (M' := up (cpB M) 245 (cpN (fun _ => 0) (cpB M 245) 0)) (by rw [cpN_0, up_eta]) ?_
  exact zer 36 0 _ _ _ _ _ _ _ _ _ rfl

