/-! THE LAW: the class against its tank, gauge, sets and counts -/
theorem lgc_self (x : Int64) : lg_cmp x x = 0 := by
  unfold lg_cmp
  rw [if_neg (fun h => Int64.lt_irrefl h), if_pos rfl]
theorem OkS.n4 {sg : Nat → Int32} (h : OkS sg) : sg 4 = nI (nP sg) := h.1.1.1
theorem OkS.n5 {sg : Nat → Int32} (h : OkS sg) : sg 5 = nI (nG sg) := h.1.2.1.1
/-- the greatest (least) of the latest k notes of m, and 10000; -6 of none -/
def MG (f : Nat → Int32) (m k : Nat) (v : Int32) : Prop := (k = 0 ∧ v = -6) ∨ (0 < k ∧ ∃ w, bd w ∧ v = w + 10000 ∧ (∀ q, q < k → f (m - 1 - q) ≤ w) ∧ ∃ q, q < k ∧ w = f (m - 1 - q))
def ML (f : Nat → Int32) (m k : Nat) (v : Int32) : Prop := (k = 0 ∧ v = -6) ∨ (0 < k ∧ ∃ w, bd w ∧ v = w + 10000 ∧ (∀ q, q < k → w ≤ f (m - 1 - q)) ∧ ∃ q, q < k ∧ w = f (m - 1 - q))
theorem t10k {w : Int32} (h : bd w) : (w + 10000).toInt = w.toInt + 10000 := by
  rw [bd_int] at h
  rw [add_int (by rw [show (10000 : Int32).toInt = 10000 by decide]; omega) (by rw [show (10000 : Int32).toInt = 10000 by decide]; omega), show (10000 : Int32).toInt = 10000 by decide]
theorem t10k_le {v w : Int32} (h : bd v) (h2 : bd w) : v + 10000 ≤ w + 10000 ↔ v ≤ w := by
  rw [Int32.le_iff_toInt_le, Int32.le_iff_toInt_le, t10k h, t10k h2]
  omega
section
variable {f : Nat → Int32} {m k : Nat} {v : Int32}
theorem MG.new (h : MG f m k v) (hb : bd (f (m - 1 - k))) (hv : v < 0 ∨ ¬ f (m - 1 - k) + 10000 ≤ v) : MG f m (k + 1) (f (m - 1 - k) + 10000) := by
  refine Or.inr ⟨by omega, f (m - 1 - k), hb, rfl, fun q hq => ?_, k, by omega, rfl⟩
  by_cases e : q = k
  · rw [e]; exact Int32.le_refl _
  · rcases h with ⟨h0, -⟩ | ⟨h0, w, hw, rfl, h1, h2⟩
    · omega
    · have g1 := h1 q (by omega)
      refine i32_tr g1 ?_
      rcases hv with hv | hv
      · exact absurd hv (bd_ge hw)
      · rw [t10k_le hb hw] at hv
        exact i32_lt (Int32.not_le.mp hv)
theorem MG.old (h : MG f m k v) (hb : bd (f (m - 1 - k))) (h0 : ¬ v < 0) (hv : f (m - 1 - k) + 10000 ≤ v) : MG f m (k + 1) v := by
  rcases h with ⟨-, rfl⟩ | ⟨h1, w, hw, rfl, h2, q, h3, h4⟩
  · exact absurd (by decide) h0
  · refine Or.inr ⟨by omega, w, hw, rfl, fun j hj => ?_, q, by omega, h4⟩
    by_cases e : j = k
    · rw [e]; exact (t10k_le hb hw).mp hv
    · exact h2 j (by omega)
theorem ML.new (h : ML f m k v) (hb : bd (f (m - 1 - k))) (hv : v < 0 ∨ ¬ v ≤ f (m - 1 - k) + 10000) : ML f m (k + 1) (f (m - 1 - k) + 10000) := by
  refine Or.inr ⟨by omega, f (m - 1 - k), hb, rfl, fun q hq => ?_, k, by omega, rfl⟩
  by_cases e : q = k
  · rw [e]; exact Int32.le_refl _
  · rcases h with ⟨h0, -⟩ | ⟨h0, w, hw, rfl, h1, h2⟩
    · omega
    · have g1 := h1 q (by omega)
      refine i32_tr ?_ g1
      rcases hv with hv | hv
      · exact absurd hv (bd_ge hw)
      · rw [t10k_le hw hb] at hv
        exact i32_lt (Int32.not_le.mp hv)
theorem ML.old (h : ML f m k v) (hb : bd (f (m - 1 - k))) (h0 : ¬ v < 0) (hv : v ≤ f (m - 1 - k) + 10000) : ML f m (k + 1) v := by
  rcases h with ⟨-, rfl⟩ | ⟨h1, w, hw, rfl, h2, q, h3, h4⟩
  · exact absurd (by decide) h0
  · refine Or.inr ⟨by omega, w, hw, rfl, fun j hj => ?_, q, by omega, h4⟩
    by_cases e : j = k
    · rw [e]; exact (t10k_le hw hb).mp hv
    · exact h2 j (by omega)
theorem MG.all (h : MG f m m v) : v = if m = 0 then -6 else exU 1 f (m - 1) + 10000 := by
  rcases h with ⟨h0, rfl⟩ | ⟨h0, w, -, rfl, h1, q, h2, h3⟩
  · rw [if_pos h0]
  · rw [if_neg (by omega)]
    congr 1
    have g := exU_mx f (m - 1)
    rw [show m - 1 + 1 = m by omega] at g
    refine Mxm.one ⟨fun j hj => ?_, m - 1 - q, by omega, h3⟩ g
    have := h1 (m - 1 - j) (by omega)
    rwa [show m - 1 - (m - 1 - j) = j by omega] at this
theorem ML.all (h : ML f m m v) : v = if m = 0 then -6 else exU 0 f (m - 1) + 10000 := by
  rcases h with ⟨h0, rfl⟩ | ⟨h0, w, -, rfl, h1, q, h2, h3⟩
  · rw [if_pos h0]
  · rw [if_neg (by omega)]
    congr 1
    have g := exU_mn f (m - 1)
    rw [show m - 1 + 1 = m by omega] at g
    refine Mnm.one ⟨fun j hj => ?_, m - 1 - q, by omega, h3⟩ g
    have := h1 (m - 1 - j) (by omega)
    rwa [show m - 1 - (m - 1 - j) = j by omega] at this
end
theorem ga_fun (sg : Nat → Int32) : (fun i => sg (122 + 62 * 0 + (2 + i))) = fun i => sg (124 + i) := by
  funext i
  congr 1
  omega
theorem ofgR_0 (sg : Nat → Int32) (g m : Nat) : ofgR sg g m 0 = sg (122 + 62 * g + 0) := by rw [ofgR, if_pos rfl]
theorem ofgR_1 (sg : Nat → Int32) (g m : Nat) : ofgR sg g m 1 = sg (122 + 62 * g + 1) := by rw [ofgR, if_neg (by decide), if_pos rfl]
theorem ofgR_2 (sg : Nat → Int32) (g m : Nat) : ofgR sg g m 2 = exR sg g m 1 := by rw [ofgR, if_neg (by decide), if_neg (by decide), if_pos rfl]
theorem ofgR_3 (sg : Nat → Int32) (g m : Nat) : ofgR sg g m 3 = exR sg g m 0 := by rw [ofgR, if_neg (by decide), if_neg (by decide), if_neg (by decide), if_pos rfl]
theorem ofgR_4 (sg : Nat → Int32) (g m : Nat) : ofgR sg g m 4 = riU (fun i => sg (122 + 62 * g + (2 + i))) (m - 1) := by rw [ofgR, if_neg (by decide), if_neg (by decide), if_neg (by decide), if_neg (by decide), if_pos rfl]
theorem cntR_0 (sg : Nat → Int32) (np : Nat) (a b : Int32) : cntR sg np a b 0 = sg 3 := by rw [cntR, if_pos rfl]
theorem cntR_1 (sg : Nat → Int32) (np : Nat) (a b : Int32) : cntR sg np a b 1 = sg 4 := by rw [cntR, if_neg (by decide), if_pos rfl]
theorem cntR_2 (sg : Nat → Int32) (np : Nat) (a b : Int32) : cntR sg np a b 2 = stpN sg np := by rw [cntR, if_neg (by decide), if_neg (by decide), if_pos rfl]
theorem cntR_3 (sg : Nat → Int32) (np : Nat) (a b : Int32) : cntR sg np a b 3 = sg 5 := by rw [cntR, if_neg (by decide), if_neg (by decide), if_neg (by decide), if_pos rfl]
theorem cntR_4 (sg : Nat → Int32) (np : Nat) (a b : Int32) : cntR sg np a b 4 = sumN sg 40 + 1000000 := by rw [cntR, if_neg (by decide), if_neg (by decide), if_neg (by decide), if_neg (by decide), if_pos rfl]
theorem cntR_5 (sg : Nat → Int32) (np : Nat) (a b : Int32) : cntR sg np a b 5 = swN sg 40 := by rw [cntR, if_neg (by decide), if_neg (by decide), if_neg (by decide), if_neg (by decide), if_neg (by decide), if_pos rfl]
theorem cntR_6 (sg : Nat → Int32) (np : Nat) (a b : Int32) : cntR sg np a b 6 = grN sg 40 := by rw [cntR, if_neg (by decide), if_neg (by decide), if_neg (by decide), if_neg (by decide), if_neg (by decide), if_neg (by decide), if_pos rfl]
theorem cntR_7 (sg : Nat → Int32) (np : Nat) (a b : Int32) : cntR sg np a b 7 = lsN sg 40 := by rw [cntR, if_neg (by decide), if_neg (by decide), if_neg (by decide), if_neg (by decide), if_neg (by decide), if_neg (by decide), if_neg (by decide), if_pos rfl]
theorem cntR_8 (sg : Nat → Int32) (np : Nat) (a b : Int32) : cntR sg np a b 8 = sg 0 := by rw [cntR, if_neg (by decide), if_neg (by decide), if_neg (by decide), if_neg (by decide), if_neg (by decide), if_neg (by decide), if_neg (by decide), if_neg (by decide), if_pos rfl]
theorem cntR_9 (sg : Nat → Int32) (np : Nat) (a b : Int32) : cntR sg np a b 9 = sg 1 := by rw [cntR, if_neg (by decide), if_neg (by decide), if_neg (by decide), if_neg (by decide), if_neg (by decide), if_neg (by decide), if_neg (by decide), if_neg (by decide), if_neg (by decide), if_pos rfl]
theorem cntR_10 (sg : Nat → Int32) (np : Nat) (a b : Int32) : cntR sg np a b 10 = sg 2 := by rw [cntR, if_neg (by decide), if_neg (by decide), if_neg (by decide), if_neg (by decide), if_neg (by decide), if_neg (by decide), if_neg (by decide), if_neg (by decide), if_neg (by decide), if_neg (by decide), if_pos rfl]
set_option maxRecDepth 100000 in
set_option maxHeartbeats 4000000 in
theorem sm_934 {γ : Gm} {l : Launch} {M : Mm} {R : Rm} {K : KT} {x : Int32} {sg tx F : Nat → Int32} {rc pl : Nat} {hs S : Nat → Nat → Int32} {t25 t26 t27 t28 t29 t30 : Option Value} (hc : IC M R sg rc hs F S tx pl) (hl : LT M 234 238 (nP sg) sg) (hK : K (some (.int 1)) 247 M R) : WP γ l mL_same 7 247 247 934 [some (.ref 8), some (.int x), some (.ref 235), some (.ref 236), some (.ref 237), some (.ref 238), some (.ref 239), some (.ref 240), some (.ref 241), some (.int (stpN sg (nP sg))), some (.int (nI (nP sg))), some (.int (sumN sg 40)), some (.int (swN sg 40)), some (.int (grN sg 40)), some (.int (lsN sg 40)), some (.long (plcM sg (nP sg) 0 40)), none, some (.long (plcM sg (nP sg) 1 40)), none, some (.long (plcM sg (nP sg) 2 40)), none, some (.long (plcM sg (nP sg) 3 40)), none, some (.long (plcM sg (nP sg) 4 40)), none, t25, t26, t27, t28, t29, t30] [] 247 M R K := by
  have h6 := hc.ok.p6
  refine wp_drop [some (.ref 8), some (.int x), some (.ref 235), some (.ref 236), some (.ref 237), some (.ref 238), some (.ref 239), some (.ref 240), some (.ref 241), some (.int (stpN sg (nP sg))), some (.int (nI (nP sg))), some (.int (sumN sg 40)), some (.int (swN sg 40)), some (.int (grN sg 40)), some (.int (lsN sg 40)), some (.long (plcM sg (nP sg) 0 40)), none, some (.long (plcM sg (nP sg) 1 40)), none, some (.long (plcM sg (nP sg) 2 40)), none, some (.long (plcM sg (nP sg) 3 40)), none, some (.long (plcM sg (nP sg) 4 40)), none, none, none, none, none, none, none] (by simp [leL]) ?_
  refine wp_aload_n dL_same_934 rfl ?_
  refine wp_iconst (v := 4) dL_same_935 (by decide) ?_
  refine wp_cV1 (z := mX5_count) (n' := 247) kL_43 dL_same_936 (Nat.le_of_ble_eq_true rfl) (Nat.le_of_ble_eq_true rfl) tA_8 (Nat.le_of_ble_eq_true rfl) (Nat.le_of_ble_eq_true rfl) (Nat.le_refl _) (Nat.le_refl _) (s_X5_count hc (wp_af ?_))
  refine wp_top (cntR_4 sg (nP sg) _ _) ?_
  refine wp_iload dL_same_939 rfl ?_
  refine wp_ldc (v := 1000000) dL_same_941 q462 ?_
  refine wp_iadd dL_same_943 ?_
  refine wp_icmp_ne (tgt := 1030) dL_same_944 (by decide) (fun h944 => absurd rfl h944) (fun h944 => ?_)
  refine wp_aload_n dL_same_947 rfl ?_
  refine wp_iconst (v := 5) dL_same_948 (by decide) ?_
  refine wp_cV1 (z := mX5_count) (n' := 247) kL_43 dL_same_949 (Nat.le_of_ble_eq_true rfl) (Nat.le_of_ble_eq_true rfl) tA_8 (Nat.le_of_ble_eq_true rfl) (Nat.le_of_ble_eq_true rfl) (Nat.le_refl _) (Nat.le_refl _) (s_X5_count hc (wp_af ?_))
  refine wp_top (cntR_5 sg (nP sg) _ _) ?_
  refine wp_iload dL_same_952 rfl ?_
  refine wp_icmp_ne (tgt := 1030) dL_same_954 (by decide) (fun h954 => absurd rfl h954) (fun h954 => ?_)
  refine wp_aload_n dL_same_957 rfl ?_
  refine wp_bipush (v := 6) dL_same_958 (by decide) ?_
  refine wp_cV1 (z := mX5_count) (n' := 247) kL_43 dL_same_960 (Nat.le_of_ble_eq_true rfl) (Nat.le_of_ble_eq_true rfl) tA_8 (Nat.le_of_ble_eq_true rfl) (Nat.le_of_ble_eq_true rfl) (Nat.le_refl _) (Nat.le_refl _) (s_X5_count hc (wp_af ?_))
  refine wp_top (cntR_6 sg (nP sg) _ _) ?_
  refine wp_iload dL_same_963 rfl ?_
  refine wp_icmp_ne (tgt := 1030) dL_same_965 (by decide) (fun h965 => absurd rfl h965) (fun h965 => ?_)
  refine wp_aload_n dL_same_968 rfl ?_
  refine wp_bipush (v := 7) dL_same_969 (by decide) ?_
  refine wp_cV1 (z := mX5_count) (n' := 247) kL_43 dL_same_971 (Nat.le_of_ble_eq_true rfl) (Nat.le_of_ble_eq_true rfl) tA_8 (Nat.le_of_ble_eq_true rfl) (Nat.le_of_ble_eq_true rfl) (Nat.le_refl _) (Nat.le_refl _) (s_X5_count hc (wp_af ?_))
  refine wp_top (cntR_7 sg (nP sg) _ _) ?_
  refine wp_iload dL_same_974 rfl ?_
  refine wp_icmp_ne (tgt := 1030) dL_same_976 (by decide) (fun h976 => absurd rfl h976) (fun h976 => ?_)
  refine wp_aload_n dL_same_979 rfl ?_
  refine wp_bipush (v := 8) dL_same_980 (by decide) ?_
  refine wp_cV1 (z := mX5_count) (n' := 247) kL_43 dL_same_982 (Nat.le_of_ble_eq_true rfl) (Nat.le_of_ble_eq_true rfl) tA_8 (Nat.le_of_ble_eq_true rfl) (Nat.le_of_ble_eq_true rfl) (Nat.le_refl _) (Nat.le_refl _) (s_X5_count hc (wp_af ?_))
  refine wp_top (cntR_8 sg (nP sg) _ _) ?_
  refine wp_aload_n dL_same_985 rfl ?_
  refine wp_iconst (v := 0) dL_same_986 (by decide) ?_
  refine wp_iadn (i := 0) rfl tA_235 (Nat.le_of_ble_eq_true rfl) (by rw [lA_235]; omega) (Nat.le_of_ble_eq_true rfl) dL_same_987 (hl.q (by decide)) ?_
  refine wp_icmp_ne (tgt := 1030) dL_same_988 (by decide) (fun h988 => absurd rfl h988) (fun h988 => ?_)
  refine wp_aload_n dL_same_991 rfl ?_
  refine wp_bipush (v := 9) dL_same_992 (by decide) ?_
  refine wp_cV1 (z := mX5_count) (n' := 247) kL_43 dL_same_994 (Nat.le_of_ble_eq_true rfl) (Nat.le_of_ble_eq_true rfl) tA_8 (Nat.le_of_ble_eq_true rfl) (Nat.le_of_ble_eq_true rfl) (Nat.le_refl _) (Nat.le_refl _) (s_X5_count hc (wp_af ?_))
  refine wp_top (cntR_9 sg (nP sg) _ _) ?_
  refine wp_aload_n dL_same_997 rfl ?_
  refine wp_iconst (v := 1) dL_same_998 (by decide) ?_
  refine wp_iadn (i := 1) rfl tA_235 (Nat.le_of_ble_eq_true rfl) (by rw [lA_235]; omega) (Nat.le_of_ble_eq_true rfl) dL_same_999 (hl.q (by decide)) ?_
  refine wp_icmp_ne (tgt := 1030) dL_same_1000 (by decide) (fun h1000 => absurd rfl h1000) (fun h1000 => ?_)
  refine wp_aload_n dL_same_1003 rfl ?_
  refine wp_bipush (v := 10) dL_same_1004 (by decide) ?_
  refine wp_cV1 (z := mX5_count) (n' := 247) kL_43 dL_same_1006 (Nat.le_of_ble_eq_true rfl) (Nat.le_of_ble_eq_true rfl) tA_8 (Nat.le_of_ble_eq_true rfl) (Nat.le_of_ble_eq_true rfl) (Nat.le_refl _) (Nat.le_refl _) (s_X5_count hc (wp_af ?_))
  refine wp_top (cntR_10 sg (nP sg) _ _) ?_
  refine wp_aload_n dL_same_1009 rfl ?_
  refine wp_iconst (v := 2) dL_same_1010 (by decide) ?_
  refine wp_iadn (i := 2) rfl tA_235 (Nat.le_of_ble_eq_true rfl) (by rw [lA_235]; omega) (Nat.le_of_ble_eq_true rfl) dL_same_1011 (hl.q (by decide)) ?_
  refine wp_icmp_ne (tgt := 1030) dL_same_1012 (by decide) (fun h1012 => absurd rfl h1012) (fun h1012 => ?_)
  refine wp_aload_n dL_same_1015 rfl ?_
  refine wp_iload dL_same_1016 rfl ?_
  refine wp_iconst (v := 0) dL_same_1018 (by decide) ?_
  refine wp_cV2 (z := mX5_ofPaddle) (n' := 247) kL_29 dL_same_1019 (Nat.le_of_ble_eq_true rfl) (Nat.le_of_ble_eq_true rfl) tA_8 (Nat.le_of_ble_eq_true rfl) (Nat.le_of_ble_eq_true rfl) (Nat.le_refl _) (Nat.le_refl _) (s_ofpE hc (wp_af ?_))
  refine wp_iconst (v := (-1)) dL_same_1022 (by decide) ?_
  refine wp_icmp_ne (tgt := 1030) dL_same_1023 (by decide) (fun h1023 => absurd rfl h1023) (fun h1023 => ?_)
  refine wp_iconst (v := 1) dL_same_1026 (by decide) ?_
  refine wp_goto (tgt := 1031) dL_same_1027 (by decide) ?_
  exact wp_iret dL_same_1031 rfl rfl rfl (hK)

set_option maxRecDepth 100000 in
set_option maxHeartbeats 4000000 in
theorem sm_820 {γ : Gm} {l : Launch} {M : Mm} {R : Rm} {K : KT} {x : Int32} {sg tx F : Nat → Int32} {rc pl : Nat} {hs S : Nat → Nat → Int32} {t25 t26 t27 t28 t29 t30 : Option Value} {g0 : Int32} (hc : IC M R sg rc hs F S tx pl) (hl : LT M 234 238 (nP sg) sg) (hq4 : M 235 4 = nI (nP sg)) (hg0 : M 240 0 = g0) (h51 : 0 ≤ g0 → sg 5 = 1) (h50 : ¬ 0 ≤ g0 → sg 5 = 0) (hK : K (some (.int 1)) 247 M R) : WP γ l mL_same 7 247 247 820 [some (.ref 8), some (.int x), some (.ref 235), some (.ref 236), some (.ref 237), some (.ref 238), some (.ref 239), some (.ref 240), some (.ref 241), some (.int (stpN sg (nP sg))), some (.int (nI (nP sg))), some (.int (sumN sg 40)), some (.int (swN sg 40)), some (.int (grN sg 40)), some (.int (lsN sg 40)), some (.long (plcM sg (nP sg) 0 40)), none, some (.long (plcM sg (nP sg) 1 40)), none, some (.long (plcM sg (nP sg) 2 40)), none, some (.long (plcM sg (nP sg) 3 40)), none, some (.long (plcM sg (nP sg) 4 40)), none, t25, t26, t27, t28, t29, t30] [] 247 M R K := by
  have h6 := hc.ok.p6
  refine wp_drop [some (.ref 8), some (.int x), some (.ref 235), some (.ref 236), some (.ref 237), some (.ref 238), some (.ref 239), some (.ref 240), some (.ref 241), some (.int (stpN sg (nP sg))), some (.int (nI (nP sg))), some (.int (sumN sg 40)), some (.int (swN sg 40)), some (.int (grN sg 40)), some (.int (lsN sg 40)), some (.long (plcM sg (nP sg) 0 40)), none, some (.long (plcM sg (nP sg) 1 40)), none, some (.long (plcM sg (nP sg) 2 40)), none, some (.long (plcM sg (nP sg) 3 40)), none, some (.long (plcM sg (nP sg) 4 40)), none, none, none, none, none, none, none] (by simp [leL]) ?_
  refine wp_iload dL_same_820 rfl ?_
  refine wp_aload_n dL_same_822 rfl ?_
  refine wp_iconst (v := 4) dL_same_823 (by decide) ?_
  refine wp_iadn (i := 4) (v := nI (nP sg)) rfl tA_235 (Nat.le_of_ble_eq_true rfl) (by rw [lA_235]; omega) (Nat.le_of_ble_eq_true rfl) dL_same_824 (hq4) ?_
  refine wp_icN_ne (a := (nP sg)) (b := (nP sg)) (tgt := 1030) dL_same_825 (by decide) rfl rfl (by omega) (by omega) (fun h825 => absurd rfl h825) (fun h825 => ?_)
  refine wp_aload_n dL_same_828 rfl ?_
  refine wp_iconst (v := 0) dL_same_829 (by decide) ?_
  refine wp_cV1 (z := mX5_places) (n' := 247) kL_39 dL_same_830 (Nat.le_of_ble_eq_true rfl) (Nat.le_of_ble_eq_true rfl) tA_8 (Nat.le_of_ble_eq_true rfl) (Nat.le_of_ble_eq_true rfl) (Nat.le_refl _) (Nat.le_refl _) (s_X5_places hc (fun hn => absurd (by decide) hn) (fun _ => (wp_af ?_)))
  refine wp_lload dL_same_833 rfl ?_
  refine wp_lcmp dL_same_835 ?_
  refine wp_if_ne (tgt := 1030) dL_same_836 (by decide) (fun h836 => absurd (lgc_self _) h836) (fun h836 => ?_)
  refine wp_aload_n dL_same_839 rfl ?_
  refine wp_iconst (v := 1) dL_same_840 (by decide) ?_
  refine wp_cV1 (z := mX5_places) (n' := 247) kL_39 dL_same_841 (Nat.le_of_ble_eq_true rfl) (Nat.le_of_ble_eq_true rfl) tA_8 (Nat.le_of_ble_eq_true rfl) (Nat.le_of_ble_eq_true rfl) (Nat.le_refl _) (Nat.le_refl _) (s_X5_places hc (fun hn => absurd (by decide) hn) (fun _ => (wp_af ?_)))
  refine wp_lload dL_same_844 rfl ?_
  refine wp_lcmp dL_same_846 ?_
  refine wp_if_ne (tgt := 1030) dL_same_847 (by decide) (fun h847 => absurd (lgc_self _) h847) (fun h847 => ?_)
  refine wp_aload_n dL_same_850 rfl ?_
  refine wp_iconst (v := 2) dL_same_851 (by decide) ?_
  refine wp_cV1 (z := mX5_places) (n' := 247) kL_39 dL_same_852 (Nat.le_of_ble_eq_true rfl) (Nat.le_of_ble_eq_true rfl) tA_8 (Nat.le_of_ble_eq_true rfl) (Nat.le_of_ble_eq_true rfl) (Nat.le_refl _) (Nat.le_refl _) (s_X5_places hc (fun hn => absurd (by decide) hn) (fun _ => (wp_af ?_)))
  refine wp_lload dL_same_855 rfl ?_
  refine wp_lcmp dL_same_857 ?_
  refine wp_if_ne (tgt := 1030) dL_same_858 (by decide) (fun h858 => absurd (lgc_self _) h858) (fun h858 => ?_)
  refine wp_aload_n dL_same_861 rfl ?_
  refine wp_iconst (v := 3) dL_same_862 (by decide) ?_
  refine wp_cV1 (z := mX5_places) (n' := 247) kL_39 dL_same_863 (Nat.le_of_ble_eq_true rfl) (Nat.le_of_ble_eq_true rfl) tA_8 (Nat.le_of_ble_eq_true rfl) (Nat.le_of_ble_eq_true rfl) (Nat.le_refl _) (Nat.le_refl _) (s_X5_places hc (fun hn => absurd (by decide) hn) (fun _ => (wp_af ?_)))
  refine wp_lload dL_same_866 rfl ?_
  refine wp_lcmp dL_same_868 ?_
  refine wp_if_ne (tgt := 1030) dL_same_869 (by decide) (fun h869 => absurd (lgc_self _) h869) (fun h869 => ?_)
  refine wp_aload_n dL_same_872 rfl ?_
  refine wp_iconst (v := 4) dL_same_873 (by decide) ?_
  refine wp_cV1 (z := mX5_places) (n' := 247) kL_39 dL_same_874 (Nat.le_of_ble_eq_true rfl) (Nat.le_of_ble_eq_true rfl) tA_8 (Nat.le_of_ble_eq_true rfl) (Nat.le_of_ble_eq_true rfl) (Nat.le_refl _) (Nat.le_refl _) (s_X5_places hc (fun hn => absurd (by decide) hn) (fun _ => (wp_af ?_)))
  refine wp_lload dL_same_877 rfl ?_
  refine wp_lcmp dL_same_879 ?_
  refine wp_if_ne (tgt := 1030) dL_same_880 (by decide) (fun h880 => absurd (lgc_self _) h880) (fun h880 => ?_)
  refine wp_aload_n dL_same_883 rfl ?_
  refine wp_iconst (v := 0) dL_same_884 (by decide) ?_
  refine wp_cV1 (z := mX5_count) (n' := 247) kL_43 dL_same_885 (Nat.le_of_ble_eq_true rfl) (Nat.le_of_ble_eq_true rfl) tA_8 (Nat.le_of_ble_eq_true rfl) (Nat.le_of_ble_eq_true rfl) (Nat.le_refl _) (Nat.le_refl _) (s_X5_count hc (wp_af ?_))
  refine wp_top (cntR_0 sg (nP sg) _ _) ?_
  refine wp_aload_n dL_same_888 rfl ?_
  refine wp_iconst (v := 3) dL_same_889 (by decide) ?_
  refine wp_iadn (i := 3) rfl tA_235 (Nat.le_of_ble_eq_true rfl) (by rw [lA_235]; omega) (Nat.le_of_ble_eq_true rfl) dL_same_890 (hl.q (by decide)) ?_
  refine wp_icmp_ne (tgt := 1030) dL_same_891 (by decide) (fun h891 => absurd rfl h891) (fun h891 => ?_)
  refine wp_aload_n dL_same_894 rfl ?_
  refine wp_iconst (v := 1) dL_same_895 (by decide) ?_
  refine wp_cV1 (z := mX5_count) (n' := 247) kL_43 dL_same_896 (Nat.le_of_ble_eq_true rfl) (Nat.le_of_ble_eq_true rfl) tA_8 (Nat.le_of_ble_eq_true rfl) (Nat.le_of_ble_eq_true rfl) (Nat.le_refl _) (Nat.le_refl _) (s_X5_count hc (wp_af ?_))
  refine wp_top (z := nI (nP sg)) ((cntR_1 sg (nP sg) _ _).trans hc.ok.n4) ?_
  refine wp_iload dL_same_899 rfl ?_
  refine wp_icN_ne (a := (nP sg)) (b := (nP sg)) (tgt := 1030) dL_same_901 (by decide) rfl rfl (by omega) (by omega) (fun h901 => absurd rfl h901) (fun h901 => ?_)
  refine wp_aload_n dL_same_904 rfl ?_
  refine wp_iconst (v := 2) dL_same_905 (by decide) ?_
  refine wp_cV1 (z := mX5_count) (n' := 247) kL_43 dL_same_906 (Nat.le_of_ble_eq_true rfl) (Nat.le_of_ble_eq_true rfl) tA_8 (Nat.le_of_ble_eq_true rfl) (Nat.le_of_ble_eq_true rfl) (Nat.le_refl _) (Nat.le_refl _) (s_X5_count hc (wp_af ?_))
  refine wp_top (cntR_2 sg (nP sg) _ _) ?_
  refine wp_iload dL_same_909 rfl ?_
  refine wp_icmp_ne (tgt := 1030) dL_same_911 (by decide) (fun h911 => absurd rfl h911) (fun h911 => ?_)
  refine wp_aload_n dL_same_914 rfl ?_
  refine wp_iconst (v := 3) dL_same_915 (by decide) ?_
  refine wp_cV1 (z := mX5_count) (n' := 247) kL_43 dL_same_916 (Nat.le_of_ble_eq_true rfl) (Nat.le_of_ble_eq_true rfl) tA_8 (Nat.le_of_ble_eq_true rfl) (Nat.le_of_ble_eq_true rfl) (Nat.le_refl _) (Nat.le_refl _) (s_X5_count hc (wp_af ?_))
  refine wp_top (cntR_3 sg (nP sg) _ _) ?_
  refine wp_aload dL_same_919 rfl ?_
  refine wp_iconst (v := 0) dL_same_921 (by decide) ?_
  refine wp_iadn (i := 0) rfl tA_240 (Nat.le_of_ble_eq_true rfl) (by rw [lA_240]; omega) (Nat.le_of_ble_eq_true rfl) dL_same_922 (hg0) ?_
  refine wp_if_ge (tgt := 930) dL_same_923 (by decide) (fun h923 => ?_) (fun h923 => ?_)
  · refine wp_iconst (v := 1) dL_same_930 (by decide) ?_
    refine wp_icmp_ne (tgt := 1030) dL_same_931 (by decide) (fun h931 => (by first | exact absurd (h51 h923) h931 | exact absurd (h50 h923) h931)) (fun h931 => ?_)
    exact sm_934 hc hl hK
  · refine wp_iconst (v := 0) dL_same_926 (by decide) ?_
    refine wp_goto (tgt := 931) dL_same_927 (by decide) ?_
    refine wp_icmp_ne (tgt := 1030) dL_same_931 (by decide) (fun h931 => (by first | exact absurd (h51 h923) h931 | exact absurd (h50 h923) h931)) (fun h931 => ?_)
    exact sm_934 hc hl hK

set_option maxRecDepth 100000 in
set_option maxHeartbeats 4000000 in
theorem sm_571 {γ : Gm} {l : Launch} {M : Mm} {R : Rm} {K : KT} {x : Int32} {sg tx F : Nat → Int32} {rc pl : Nat} {hs S : Nat → Nat → Int32} {t25 t26 t27 t28 t29 t30 : Option Value} {s : Nat} (hc : IC M R sg rc hs F S tx pl) (hl : LT M 234 238 (nP sg) sg) (hq4 : M 235 4 = nI (nP sg)) (hG : ∃ c m, c < 40 ∧ m ≤ 60 ∧ sg 5 = 1 ∧ sg 122 = nI c ∧ sg 123 = nI m ∧ M 240 0 = nI c ∧ M 240 1 = nI m ∧ ∀ k, k < m → M 241 ((s + 120000 - k) % 60) = sg (124 + (m - 1 - k))) (hl3 : M 235 3 = nI s) (hs5 : s ≤ 5000) (hK : K (some (.int 1)) 247 M R) : WP γ l mL_same 7 247 247 571 [some (.ref 8), some (.int x), some (.ref 235), some (.ref 236), some (.ref 237), some (.ref 238), some (.ref 239), some (.ref 240), some (.ref 241), some (.int (stpN sg (nP sg))), some (.int (nI (nP sg))), some (.int (sumN sg 40)), some (.int (swN sg 40)), some (.int (grN sg 40)), some (.int (lsN sg 40)), some (.long (plcM sg (nP sg) 0 40)), none, some (.long (plcM sg (nP sg) 1 40)), none, some (.long (plcM sg (nP sg) 2 40)), none, some (.long (plcM sg (nP sg) 3 40)), none, some (.long (plcM sg (nP sg) 4 40)), none, t25, t26, t27, t28, t29, t30] [] 247 M R K := by
  obtain ⟨c, m, hc4, hm, e5, e122, e123, g3, g4, g5⟩ := hG
  have hng : 0 < nG sg := by
    have := hc.ok.n5
    rw [e5] at this
    have := (nI_eq (a := 1) (b := nG sg) (by omega) (by have := hc.ok.g4; omega)).mp this
    omega
  have hbd : ∀ q, q < m → bd (sg (124 + q)) := fun q hq => by
    obtain ⟨-, m2, h1, h2, h3⟩ := hc.ok.1.2.2.2.2.1 0 hng
    obtain rfl := (nI_eq (by omega) (by omega)).mp (e123.symm.trans h2)
    exact h3 q hq
  have loop : ∀ (q k : Nat) (mo le rs : Int32) (t29 t30 : Option Value), q + k = m → MG (fun i => sg (124 + i)) m k mo → ML (fun i => sg (124 + i)) m k le → rs + riU (fun i => sg (124 + i)) (m - 1 - k) = riU (fun i => sg (124 + i)) (m - 1) → WP γ l mL_same 7 247 247 592 [some (.ref 8), some (.int x), some (.ref 235), some (.ref 236), some (.ref 237), some (.ref 238), some (.ref 239), some (.ref 240), some (.ref 241), some (.int (stpN sg (nP sg))), some (.int (nI (nP sg))), some (.int (sumN sg 40)), some (.int (swN sg 40)), some (.int (grN sg 40)), some (.int (lsN sg 40)), some (.long (plcM sg (nP sg) 0 40)), none, some (.long (plcM sg (nP sg) 1 40)), none, some (.long (plcM sg (nP sg) 2 40)), none, some (.long (plcM sg (nP sg) 3 40)), none, some (.long (plcM sg (nP sg) 4 40)), none, some (.int mo), some (.int le), some (.int rs), some (.int (nI k)), t29, t30] [] 247 M R K := by
    intro q
    induction q with
    | zero =>
      intro k mo le rs t29 t30 hq h1 h2 h3
      obtain rfl : k = m := by omega
      refine wp_drop [some (.ref 8), some (.int x), some (.ref 235), some (.ref 236), some (.ref 237), some (.ref 238), some (.ref 239), some (.ref 240), some (.ref 241), some (.int (stpN sg (nP sg))), some (.int (nI (nP sg))), some (.int (sumN sg 40)), some (.int (swN sg 40)), some (.int (grN sg 40)), some (.int (lsN sg 40)), some (.long (plcM sg (nP sg) 0 40)), none, some (.long (plcM sg (nP sg) 1 40)), none, some (.long (plcM sg (nP sg) 2 40)), none, some (.long (plcM sg (nP sg) 3 40)), none, some (.long (plcM sg (nP sg) 4 40)), none, some (.int mo), some (.int le), some (.int rs), some (.int (nI k)), none, none] (by simp [leL]) ?_
      refine wp_iload dL_same_592 rfl ?_
      refine wp_aload dL_same_594 rfl ?_
      refine wp_iconst (v := 1) dL_same_596 (by decide) ?_
      refine wp_iadn (i := 1) (v := nI k) rfl tA_240 (Nat.le_of_ble_eq_true rfl) (by rw [lA_240]; omega) (Nat.le_of_ble_eq_true rfl) dL_same_597 (g4) ?_
      refine wp_icN_ge (a := k) (b := k) (tgt := 746) dL_same_598 (by decide) rfl rfl (by omega) (by omega) (fun h598 => ?_) (fun h598 => absurd h598 (by omega))
      refine wp_aload_n dL_same_746 rfl ?_
      refine wp_iconst (v := 0) dL_same_747 (by decide) ?_
      refine wp_iconst (v := 0) dL_same_748 (by decide) ?_
      refine wp_cV2 (z := mX5_ofGauge) (n' := 247) kL_36 dL_same_749 (Nat.le_of_ble_eq_true rfl) (Nat.le_of_ble_eq_true rfl) tA_8 (Nat.le_of_ble_eq_true rfl) (Nat.le_of_ble_eq_true rfl) (Nat.le_refl _) (Nat.le_refl _) (s_ofg hc hng hm e123 (wp_af ?_))
      refine wp_top (z := nI c) ((ofgR_0 sg 0 k).trans e122) ?_
      refine wp_aload dL_same_752 rfl ?_
      refine wp_iconst (v := 0) dL_same_754 (by decide) ?_
      refine wp_iadn (i := 0) (v := nI c) rfl tA_240 (Nat.le_of_ble_eq_true rfl) (by rw [lA_240]; omega) (Nat.le_of_ble_eq_true rfl) dL_same_755 (g3) ?_
      refine wp_icN_ne (a := c) (b := c) (tgt := 818) dL_same_756 (by decide) rfl rfl (by omega) (by omega) (fun h756 => absurd rfl h756) (fun h756 => ?_)
      refine wp_aload_n dL_same_759 rfl ?_
      refine wp_iconst (v := 0) dL_same_760 (by decide) ?_
      refine wp_iconst (v := 1) dL_same_761 (by decide) ?_
      refine wp_cV2 (z := mX5_ofGauge) (n' := 247) kL_36 dL_same_762 (Nat.le_of_ble_eq_true rfl) (Nat.le_of_ble_eq_true rfl) tA_8 (Nat.le_of_ble_eq_true rfl) (Nat.le_of_ble_eq_true rfl) (Nat.le_refl _) (Nat.le_refl _) (s_ofg hc hng hm e123 (wp_af ?_))
      refine wp_top (z := nI k) ((ofgR_1 sg 0 k).trans e123) ?_
      refine wp_aload dL_same_765 rfl ?_
      refine wp_iconst (v := 1) dL_same_767 (by decide) ?_
      refine wp_iadn (i := 1) (v := nI k) rfl tA_240 (Nat.le_of_ble_eq_true rfl) (by rw [lA_240]; omega) (Nat.le_of_ble_eq_true rfl) dL_same_768 (g4) ?_
      refine wp_icN_ne (a := k) (b := k) (tgt := 818) dL_same_769 (by decide) rfl rfl (by omega) (by omega) (fun h769 => absurd rfl h769) (fun h769 => ?_)
      refine wp_aload_n dL_same_772 rfl ?_
      refine wp_iconst (v := 0) dL_same_773 (by decide) ?_
      refine wp_iconst (v := 2) dL_same_774 (by decide) ?_
      refine wp_cV2 (z := mX5_ofGauge) (n' := 247) kL_36 dL_same_775 (Nat.le_of_ble_eq_true rfl) (Nat.le_of_ble_eq_true rfl) tA_8 (Nat.le_of_ble_eq_true rfl) (Nat.le_of_ble_eq_true rfl) (Nat.le_refl _) (Nat.le_refl _) (s_ofg hc hng hm e123 (wp_af ?_))
      refine wp_top (z := mo) ((ofgR_2 sg 0 k).trans (by rw [exR, ga_fun]; exact h1.all.symm)) ?_
      refine wp_iload dL_same_778 rfl ?_
      refine wp_icmp_ne (tgt := 818) dL_same_780 (by decide) (fun h780 => absurd rfl h780) (fun h780 => ?_)
      refine wp_aload_n dL_same_783 rfl ?_
      refine wp_iconst (v := 0) dL_same_784 (by decide) ?_
      refine wp_iconst (v := 3) dL_same_785 (by decide) ?_
      refine wp_cV2 (z := mX5_ofGauge) (n' := 247) kL_36 dL_same_786 (Nat.le_of_ble_eq_true rfl) (Nat.le_of_ble_eq_true rfl) tA_8 (Nat.le_of_ble_eq_true rfl) (Nat.le_of_ble_eq_true rfl) (Nat.le_refl _) (Nat.le_refl _) (s_ofg hc hng hm e123 (wp_af ?_))
      refine wp_top (z := le) ((ofgR_3 sg 0 k).trans (by rw [exR, ga_fun]; exact h2.all.symm)) ?_
      refine wp_iload dL_same_789 rfl ?_
      refine wp_icmp_ne (tgt := 818) dL_same_791 (by decide) (fun h791 => absurd rfl h791) (fun h791 => ?_)
      refine wp_aload_n dL_same_794 rfl ?_
      refine wp_iconst (v := 0) dL_same_795 (by decide) ?_
      refine wp_iconst (v := 4) dL_same_796 (by decide) ?_
      refine wp_cV2 (z := mX5_ofGauge) (n' := 247) kL_36 dL_same_797 (Nat.le_of_ble_eq_true rfl) (Nat.le_of_ble_eq_true rfl) tA_8 (Nat.le_of_ble_eq_true rfl) (Nat.le_of_ble_eq_true rfl) (Nat.le_refl _) (Nat.le_refl _) (s_ofg hc hng hm e123 (wp_af ?_))
      refine wp_top (z := rs) ((ofgR_4 sg 0 k).trans (by rw [ga_fun, ← h3, show k - 1 - k = 0 by omega, riU, Int32.add_zero])) ?_
      refine wp_iload dL_same_800 rfl ?_
      refine wp_icmp_ne (tgt := 818) dL_same_802 (by decide) (fun h802 => absurd rfl h802) (fun h802 => ?_)
      refine wp_aload_n dL_same_805 rfl ?_
      refine wp_iconst (v := 0) dL_same_806 (by decide) ?_
      refine wp_aload dL_same_807 rfl ?_
      refine wp_iconst (v := 1) dL_same_809 (by decide) ?_
      refine wp_iadn (i := 1) (v := nI k) rfl tA_240 (Nat.le_of_ble_eq_true rfl) (by rw [lA_240]; omega) (Nat.le_of_ble_eq_true rfl) dL_same_810 (g4) ?_
      refine wp_cV2 (z := mX5_noted) (n' := 247) kL_33 dL_same_811 (Nat.le_of_ble_eq_true rfl) (Nat.le_of_ble_eq_true rfl) tA_8 (Nat.le_of_ble_eq_true rfl) (Nat.le_of_ble_eq_true rfl) (Nat.le_refl _) (Nat.le_refl _) (s_notedE hc hm e123 (wp_af ?_))
      refine wp_iconst (v := (-1)) dL_same_814 (by decide) ?_
      refine wp_icmp_eq (tgt := 820) dL_same_815 (by decide) (fun h815 => ?_) (fun h815 => absurd rfl h815)
      exact sm_820 hc hl hq4 g3 (fun _ => e5) (fun h => absurd (nI_pos' (by omega)) h) hK
    | succ q ih =>
      intro k mo le rs t29 t30 hq h1 h2 h3
      have hkm : k < m := by omega
      have hb := hbd (m - 1 - k) (by omega)
      have s694 : ∀ (mo le : Int32) (t30 : Option Value), MG (fun i => sg (124 + i)) m (k + 1) mo → ML (fun i => sg (124 + i)) m (k + 1) le → WP γ l mL_same 7 247 247 694 [some (.ref 8), some (.int x), some (.ref 235), some (.ref 236), some (.ref 237), some (.ref 238), some (.ref 239), some (.ref 240), some (.ref 241), some (.int (stpN sg (nP sg))), some (.int (nI (nP sg))), some (.int (sumN sg 40)), some (.int (swN sg 40)), some (.int (grN sg 40)), some (.int (lsN sg 40)), some (.long (plcM sg (nP sg) 0 40)), none, some (.long (plcM sg (nP sg) 1 40)), none, some (.long (plcM sg (nP sg) 2 40)), none, some (.long (plcM sg (nP sg) 3 40)), none, some (.long (plcM sg (nP sg) 4 40)), none, some (.int mo), some (.int le), some (.int rs), some (.int (nI k)), some (.int (sg (124 + (m - 1 - k)))), t30] [] 247 M R K := by
        intro mo le t30 h1 h2
        refine wp_drop [some (.ref 8), some (.int x), some (.ref 235), some (.ref 236), some (.ref 237), some (.ref 238), some (.ref 239), some (.ref 240), some (.ref 241), some (.int (stpN sg (nP sg))), some (.int (nI (nP sg))), some (.int (sumN sg 40)), some (.int (swN sg 40)), some (.int (grN sg 40)), some (.int (lsN sg 40)), some (.long (plcM sg (nP sg) 0 40)), none, some (.long (plcM sg (nP sg) 1 40)), none, some (.long (plcM sg (nP sg) 2 40)), none, some (.long (plcM sg (nP sg) 3 40)), none, some (.long (plcM sg (nP sg) 4 40)), none, some (.int mo), some (.int le), some (.int rs), some (.int (nI k)), some (.int (sg (124 + (m - 1 - k)))), none] (by simp [leL]) ?_
        refine wp_iload dL_same_694 rfl ?_
        refine wp_iload dL_same_696 rfl ?_
        refine wp_iconst (v := 1) dL_same_698 (by decide) ?_
        refine wp_iadd dL_same_699 ?_
        refine wp_aload dL_same_700 rfl ?_
        refine wp_iconst (v := 1) dL_same_702 (by decide) ?_
        refine wp_iadn (i := 1) (v := nI m) rfl tA_240 (Nat.le_of_ble_eq_true rfl) (by rw [lA_240]; omega) (Nat.le_of_ble_eq_true rfl) dL_same_703 (g4) ?_
        refine wp_icN_ge (a := (k + 1)) (b := m) (tgt := 736) dL_same_704 (by decide) (ix_add rfl rfl) rfl (by omega) (by omega) (fun h704 => ?_) (fun h704 => ?_)
        · refine wp_iconst (v := 0) dL_same_736 (by decide) ?_
          refine wp_iadd dL_same_737 ?_
          refine wp_istore (L' := [some (.ref 8), some (.int x), some (.ref 235), some (.ref 236), some (.ref 237), some (.ref 238), some (.ref 239), some (.ref 240), some (.ref 241), some (.int (stpN sg (nP sg))), some (.int (nI (nP sg))), some (.int (sumN sg 40)), some (.int (swN sg 40)), some (.int (grN sg 40)), some (.int (lsN sg 40)), some (.long _), none, some (.long _), none, some (.long _), none, some (.long _), none, some (.long _), none, some (.int mo), some (.int le), some (.int _), some (.int (nI k)), some (.int (sg (124 + (m - 1 - k)))), none]) dL_same_738 (by decide) rfl ?_
          refine wp_iinc (v := nI (k + 1)) (L' := [some (.ref 8), some (.int x), some (.ref 235), some (.ref 236), some (.ref 237), some (.ref 238), some (.ref 239), some (.ref 240), some (.ref 241), some (.int (stpN sg (nP sg))), some (.int (nI (nP sg))), some (.int (sumN sg 40)), some (.int (swN sg 40)), some (.int (grN sg 40)), some (.int (lsN sg 40)), some (.long _), none, some (.long _), none, some (.long _), none, some (.long _), none, some (.long _), none, some (.int mo), some (.int le), some (.int _), some (.int (nI (k + 1))), some (.int (sg (124 + (m - 1 - k)))), none]) dL_same_740 (by decide) rfl (inc_1 _) rfl ?_
          refine wp_goto (tgt := 592) dL_same_743 (by decide) ?_
          exact ih (k + 1) _ _ _ _ _ (by omega) h1 h2 (by
            first
              | (rw [Int32.add_zero, ← h3, show m - 1 - (k + 1) = m - 1 - k by omega])
              | (rw [← h3, show m - 1 - k = m - 1 - (k + 1) + 1 by omega, riU, if_pos (by rw [show m - 1 - (k + 1) + 1 = m - 1 - k by omega]; exact ⟨Int32.not_lt.mp h709, Int32.not_le.mp h729⟩), Int32.add_assoc, Int32.add_comm 1])
              | (rw [Int32.add_zero, ← h3, show m - 1 - k = m - 1 - (k + 1) + 1 by omega, riU, if_neg (by
                  rw [show m - 1 - (k + 1) + 1 = m - 1 - k by omega]
                  first
                    | exact fun z => absurd h709 (Int32.not_lt.mpr z.1)
                    | exact fun z => absurd z.2 (Int32.not_lt.mpr h729)), Int32.add_zero]))
        · refine wp_iload dL_same_707 rfl ?_
          refine wp_if_lt (tgt := 736) dL_same_709 (by decide) (fun h709 => ?_) (fun h709 => ?_)
          · refine wp_iconst (v := 0) dL_same_736 (by decide) ?_
            refine wp_iadd dL_same_737 ?_
            refine wp_istore (L' := [some (.ref 8), some (.int x), some (.ref 235), some (.ref 236), some (.ref 237), some (.ref 238), some (.ref 239), some (.ref 240), some (.ref 241), some (.int (stpN sg (nP sg))), some (.int (nI (nP sg))), some (.int (sumN sg 40)), some (.int (swN sg 40)), some (.int (grN sg 40)), some (.int (lsN sg 40)), some (.long _), none, some (.long _), none, some (.long _), none, some (.long _), none, some (.long _), none, some (.int mo), some (.int le), some (.int _), some (.int (nI k)), some (.int (sg (124 + (m - 1 - k)))), none]) dL_same_738 (by decide) rfl ?_
            refine wp_iinc (v := nI (k + 1)) (L' := [some (.ref 8), some (.int x), some (.ref 235), some (.ref 236), some (.ref 237), some (.ref 238), some (.ref 239), some (.ref 240), some (.ref 241), some (.int (stpN sg (nP sg))), some (.int (nI (nP sg))), some (.int (sumN sg 40)), some (.int (swN sg 40)), some (.int (grN sg 40)), some (.int (lsN sg 40)), some (.long _), none, some (.long _), none, some (.long _), none, some (.long _), none, some (.long _), none, some (.int mo), some (.int le), some (.int _), some (.int (nI (k + 1))), some (.int (sg (124 + (m - 1 - k)))), none]) dL_same_740 (by decide) rfl (inc_1 _) rfl ?_
            refine wp_goto (tgt := 592) dL_same_743 (by decide) ?_
            exact ih (k + 1) _ _ _ _ _ (by omega) h1 h2 (by
              first
                | (rw [Int32.add_zero, ← h3, show m - 1 - (k + 1) = m - 1 - k by omega])
                | (rw [← h3, show m - 1 - k = m - 1 - (k + 1) + 1 by omega, riU, if_pos (by rw [show m - 1 - (k + 1) + 1 = m - 1 - k by omega]; exact ⟨Int32.not_lt.mp h709, Int32.not_le.mp h729⟩), Int32.add_assoc, Int32.add_comm 1])
                | (rw [Int32.add_zero, ← h3, show m - 1 - k = m - 1 - (k + 1) + 1 by omega, riU, if_neg (by
                    rw [show m - 1 - (k + 1) + 1 = m - 1 - k by omega]
                    first
                      | exact fun z => absurd h709 (Int32.not_lt.mpr z.1)
                      | exact fun z => absurd z.2 (Int32.not_lt.mpr h729)), Int32.add_zero]))
          · refine wp_aload dL_same_712 rfl ?_
            refine wp_aload_n dL_same_714 rfl ?_
            refine wp_iconst (v := 3) dL_same_715 (by decide) ?_
            refine wp_iadn (i := 3) rfl tA_235 (Nat.le_of_ble_eq_true rfl) (by rw [lA_235]; omega) (Nat.le_of_ble_eq_true rfl) dL_same_716 (hl3) ?_
            refine wp_iload dL_same_717 rfl ?_
            refine wp_isub dL_same_719 ?_
            refine wp_iconst (v := 1) dL_same_720 (by decide) ?_
            refine wp_isub dL_same_721 ?_
            refine wp_ldc (v := 120000) dL_same_722 q389 ?_
            refine wp_iadd dL_same_724 ?_
            refine wp_bipush (v := 60) dL_same_725 (by decide) ?_
            refine wp_irem dL_same_727 (by decide) ?_
            refine wp_top (ring_i1 hs5 (by omega)) ?_
            refine wp_iadn (i := ((s + 120000 - (k + 1)) % 60)) rfl tA_241 (Nat.le_of_ble_eq_true rfl) (by rw [lA_241]; exact Nat.mod_lt _ (by omega)) (Nat.le_of_ble_eq_true rfl) dL_same_728 (g5 (k + 1) (by omega)) ?_
            refine wp_if_ge (tgt := 736) dL_same_729 (by decide) (fun h729 => ?_) (fun h729 => ?_)
            · refine wp_iconst (v := 0) dL_same_736 (by decide) ?_
              refine wp_iadd dL_same_737 ?_
              refine wp_istore (L' := [some (.ref 8), some (.int x), some (.ref 235), some (.ref 236), some (.ref 237), some (.ref 238), some (.ref 239), some (.ref 240), some (.ref 241), some (.int (stpN sg (nP sg))), some (.int (nI (nP sg))), some (.int (sumN sg 40)), some (.int (swN sg 40)), some (.int (grN sg 40)), some (.int (lsN sg 40)), some (.long _), none, some (.long _), none, some (.long _), none, some (.long _), none, some (.long _), none, some (.int mo), some (.int le), some (.int _), some (.int (nI k)), some (.int (sg (124 + (m - 1 - k)))), none]) dL_same_738 (by decide) rfl ?_
              refine wp_iinc (v := nI (k + 1)) (L' := [some (.ref 8), some (.int x), some (.ref 235), some (.ref 236), some (.ref 237), some (.ref 238), some (.ref 239), some (.ref 240), some (.ref 241), some (.int (stpN sg (nP sg))), some (.int (nI (nP sg))), some (.int (sumN sg 40)), some (.int (swN sg 40)), some (.int (grN sg 40)), some (.int (lsN sg 40)), some (.long _), none, some (.long _), none, some (.long _), none, some (.long _), none, some (.long _), none, some (.int mo), some (.int le), some (.int _), some (.int (nI (k + 1))), some (.int (sg (124 + (m - 1 - k)))), none]) dL_same_740 (by decide) rfl (inc_1 _) rfl ?_
              refine wp_goto (tgt := 592) dL_same_743 (by decide) ?_
              exact ih (k + 1) _ _ _ _ _ (by omega) h1 h2 (by
                first
                  | (rw [Int32.add_zero, ← h3, show m - 1 - (k + 1) = m - 1 - k by omega])
                  | (rw [← h3, show m - 1 - k = m - 1 - (k + 1) + 1 by omega, riU, if_pos (by rw [show m - 1 - (k + 1) + 1 = m - 1 - k by omega]; exact ⟨Int32.not_lt.mp h709, Int32.not_le.mp h729⟩), Int32.add_assoc, Int32.add_comm 1])
                  | (rw [Int32.add_zero, ← h3, show m - 1 - k = m - 1 - (k + 1) + 1 by omega, riU, if_neg (by
                      rw [show m - 1 - (k + 1) + 1 = m - 1 - k by omega]
                      first
                        | exact fun z => absurd h709 (Int32.not_lt.mpr z.1)
                        | exact fun z => absurd z.2 (Int32.not_lt.mpr h729)), Int32.add_zero]))
            · refine wp_iconst (v := 1) dL_same_732 (by decide) ?_
              refine wp_goto (tgt := 737) dL_same_733 (by decide) ?_
              refine wp_iadd dL_same_737 ?_
              refine wp_istore (L' := [some (.ref 8), some (.int x), some (.ref 235), some (.ref 236), some (.ref 237), some (.ref 238), some (.ref 239), some (.ref 240), some (.ref 241), some (.int (stpN sg (nP sg))), some (.int (nI (nP sg))), some (.int (sumN sg 40)), some (.int (swN sg 40)), some (.int (grN sg 40)), some (.int (lsN sg 40)), some (.long _), none, some (.long _), none, some (.long _), none, some (.long _), none, some (.long _), none, some (.int mo), some (.int le), some (.int _), some (.int (nI k)), some (.int (sg (124 + (m - 1 - k)))), none]) dL_same_738 (by decide) rfl ?_
              refine wp_iinc (v := nI (k + 1)) (L' := [some (.ref 8), some (.int x), some (.ref 235), some (.ref 236), some (.ref 237), some (.ref 238), some (.ref 239), some (.ref 240), some (.ref 241), some (.int (stpN sg (nP sg))), some (.int (nI (nP sg))), some (.int (sumN sg 40)), some (.int (swN sg 40)), some (.int (grN sg 40)), some (.int (lsN sg 40)), some (.long _), none, some (.long _), none, some (.long _), none, some (.long _), none, some (.long _), none, some (.int mo), some (.int le), some (.int _), some (.int (nI (k + 1))), some (.int (sg (124 + (m - 1 - k)))), none]) dL_same_740 (by decide) rfl (inc_1 _) rfl ?_
              refine wp_goto (tgt := 592) dL_same_743 (by decide) ?_
              exact ih (k + 1) _ _ _ _ _ (by omega) h1 h2 (by
                first
                  | (rw [Int32.add_zero, ← h3, show m - 1 - (k + 1) = m - 1 - k by omega])
                  | (rw [← h3, show m - 1 - k = m - 1 - (k + 1) + 1 by omega, riU, if_pos (by rw [show m - 1 - (k + 1) + 1 = m - 1 - k by omega]; exact ⟨Int32.not_lt.mp h709, Int32.not_le.mp h729⟩), Int32.add_assoc, Int32.add_comm 1])
                  | (rw [Int32.add_zero, ← h3, show m - 1 - k = m - 1 - (k + 1) + 1 by omega, riU, if_neg (by
                      rw [show m - 1 - (k + 1) + 1 = m - 1 - k by omega]
                      first
                        | exact fun z => absurd h709 (Int32.not_lt.mpr z.1)
                        | exact fun z => absurd z.2 (Int32.not_lt.mpr h729)), Int32.add_zero]))
      have s665 : ∀ (mo : Int32) (t30 : Option Value), MG (fun i => sg (124 + i)) m (k + 1) mo → WP γ l mL_same 7 247 247 665 [some (.ref 8), some (.int x), some (.ref 235), some (.ref 236), some (.ref 237), some (.ref 238), some (.ref 239), some (.ref 240), some (.ref 241), some (.int (stpN sg (nP sg))), some (.int (nI (nP sg))), some (.int (sumN sg 40)), some (.int (swN sg 40)), some (.int (grN sg 40)), some (.int (lsN sg 40)), some (.long (plcM sg (nP sg) 0 40)), none, some (.long (plcM sg (nP sg) 1 40)), none, some (.long (plcM sg (nP sg) 2 40)), none, some (.long (plcM sg (nP sg) 3 40)), none, some (.long (plcM sg (nP sg) 4 40)), none, some (.int mo), some (.int le), some (.int rs), some (.int (nI k)), some (.int (sg (124 + (m - 1 - k)))), t30] [] 247 M R K := by
        intro mo t30 h1
        refine wp_drop [some (.ref 8), some (.int x), some (.ref 235), some (.ref 236), some (.ref 237), some (.ref 238), some (.ref 239), some (.ref 240), some (.ref 241), some (.int (stpN sg (nP sg))), some (.int (nI (nP sg))), some (.int (sumN sg 40)), some (.int (swN sg 40)), some (.int (grN sg 40)), some (.int (lsN sg 40)), some (.long (plcM sg (nP sg) 0 40)), none, some (.long (plcM sg (nP sg) 1 40)), none, some (.long (plcM sg (nP sg) 2 40)), none, some (.long (plcM sg (nP sg) 3 40)), none, some (.long (plcM sg (nP sg) 4 40)), none, some (.int mo), some (.int le), some (.int rs), some (.int (nI k)), some (.int (sg (124 + (m - 1 - k)))), none] (by simp [leL]) ?_
        refine wp_iload dL_same_665 rfl ?_
        refine wp_if_lt (tgt := 681) dL_same_667 (by decide) (fun h667 => ?_) (fun h667 => ?_)
        · refine wp_iload dL_same_681 rfl ?_
          refine wp_sipush (v := 10000) dL_same_683 (by decide) ?_
          refine wp_iadd dL_same_686 ?_
          refine wp_goto (tgt := 692) dL_same_687 (by decide) ?_
          refine wp_istore (L' := [some (.ref 8), some (.int x), some (.ref 235), some (.ref 236), some (.ref 237), some (.ref 238), some (.ref 239), some (.ref 240), some (.ref 241), some (.int (stpN sg (nP sg))), some (.int (nI (nP sg))), some (.int (sumN sg 40)), some (.int (swN sg 40)), some (.int (grN sg 40)), some (.int (lsN sg 40)), some (.long _), none, some (.long _), none, some (.long _), none, some (.long _), none, some (.long _), none, some (.int mo), some (.int _), some (.int rs), some (.int (nI k)), some (.int (sg (124 + (m - 1 - k)))), none]) dL_same_692 (by decide) rfl ?_
          exact s694 _ _ _ h1 (by
            first
              | exact h2.new hb (Or.inl h667)
              | exact h2.old hb h667 h678
              | exact h2.new hb (Or.inr h678))
        · refine wp_iload dL_same_670 rfl ?_
          refine wp_sipush (v := 10000) dL_same_672 (by decide) ?_
          refine wp_iadd dL_same_675 ?_
          refine wp_iload dL_same_676 rfl ?_
          refine wp_icmp_ge (tgt := 690) dL_same_678 (by decide) (fun h678 => ?_) (fun h678 => ?_)
          · refine wp_iload dL_same_690 rfl ?_
            refine wp_istore (L' := [some (.ref 8), some (.int x), some (.ref 235), some (.ref 236), some (.ref 237), some (.ref 238), some (.ref 239), some (.ref 240), some (.ref 241), some (.int (stpN sg (nP sg))), some (.int (nI (nP sg))), some (.int (sumN sg 40)), some (.int (swN sg 40)), some (.int (grN sg 40)), some (.int (lsN sg 40)), some (.long _), none, some (.long _), none, some (.long _), none, some (.long _), none, some (.long _), none, some (.int mo), some (.int le), some (.int rs), some (.int (nI k)), some (.int (sg (124 + (m - 1 - k)))), none]) dL_same_692 (by decide) rfl ?_
            exact s694 _ _ _ h1 (by
              first
                | exact h2.new hb (Or.inl h667)
                | exact h2.old hb h667 h678
                | exact h2.new hb (Or.inr h678))
          · refine wp_iload dL_same_681 rfl ?_
            refine wp_sipush (v := 10000) dL_same_683 (by decide) ?_
            refine wp_iadd dL_same_686 ?_
            refine wp_goto (tgt := 692) dL_same_687 (by decide) ?_
            refine wp_istore (L' := [some (.ref 8), some (.int x), some (.ref 235), some (.ref 236), some (.ref 237), some (.ref 238), some (.ref 239), some (.ref 240), some (.ref 241), some (.int (stpN sg (nP sg))), some (.int (nI (nP sg))), some (.int (sumN sg 40)), some (.int (swN sg 40)), some (.int (grN sg 40)), some (.int (lsN sg 40)), some (.long _), none, some (.long _), none, some (.long _), none, some (.long _), none, some (.long _), none, some (.int mo), some (.int _), some (.int rs), some (.int (nI k)), some (.int (sg (124 + (m - 1 - k)))), none]) dL_same_692 (by decide) rfl ?_
            exact s694 _ _ _ h1 (by
              first
                | exact h2.new hb (Or.inl h667)
                | exact h2.old hb h667 h678
                | exact h2.new hb (Or.inr h678))
      refine wp_drop [some (.ref 8), some (.int x), some (.ref 235), some (.ref 236), some (.ref 237), some (.ref 238), some (.ref 239), some (.ref 240), some (.ref 241), some (.int (stpN sg (nP sg))), some (.int (nI (nP sg))), some (.int (sumN sg 40)), some (.int (swN sg 40)), some (.int (grN sg 40)), some (.int (lsN sg 40)), some (.long (plcM sg (nP sg) 0 40)), none, some (.long (plcM sg (nP sg) 1 40)), none, some (.long (plcM sg (nP sg) 2 40)), none, some (.long (plcM sg (nP sg) 3 40)), none, some (.long (plcM sg (nP sg) 4 40)), none, some (.int mo), some (.int le), some (.int rs), some (.int (nI k)), none, none] (by simp [leL]) ?_
      refine wp_iload dL_same_592 rfl ?_
      refine wp_aload dL_same_594 rfl ?_
      refine wp_iconst (v := 1) dL_same_596 (by decide) ?_
      refine wp_iadn (i := 1) (v := nI m) rfl tA_240 (Nat.le_of_ble_eq_true rfl) (by rw [lA_240]; omega) (Nat.le_of_ble_eq_true rfl) dL_same_597 (g4) ?_
      refine wp_icN_ge (a := k) (b := m) (tgt := 746) dL_same_598 (by decide) rfl rfl (by omega) (by omega) (fun h598 => absurd h598 (by omega)) (fun h598 => ?_)
      refine wp_aload dL_same_601 rfl ?_
      refine wp_aload_n dL_same_603 rfl ?_
      refine wp_iconst (v := 3) dL_same_604 (by decide) ?_
      refine wp_iadn (i := 3) rfl tA_235 (Nat.le_of_ble_eq_true rfl) (by rw [lA_235]; omega) (Nat.le_of_ble_eq_true rfl) dL_same_605 (hl3) ?_
      refine wp_iload dL_same_606 rfl ?_
      refine wp_isub dL_same_608 ?_
      refine wp_ldc (v := 120000) dL_same_609 q389 ?_
      refine wp_iadd dL_same_611 ?_
      refine wp_bipush (v := 60) dL_same_612 (by decide) ?_
      refine wp_irem dL_same_614 (by decide) ?_
      refine wp_top (ring_ix hs5 (by omega)) ?_
      refine wp_iadn (i := ((s + 120000 - k) % 60)) rfl tA_241 (Nat.le_of_ble_eq_true rfl) (by rw [lA_241]; exact Nat.mod_lt _ (by omega)) (Nat.le_of_ble_eq_true rfl) dL_same_615 (g5 k hkm) ?_
      refine wp_istore (L' := [some (.ref 8), some (.int x), some (.ref 235), some (.ref 236), some (.ref 237), some (.ref 238), some (.ref 239), some (.ref 240), some (.ref 241), some (.int (stpN sg (nP sg))), some (.int (nI (nP sg))), some (.int (sumN sg 40)), some (.int (swN sg 40)), some (.int (grN sg 40)), some (.int (lsN sg 40)), some (.long _), none, some (.long _), none, some (.long _), none, some (.long _), none, some (.long _), none, some (.int mo), some (.int le), some (.int rs), some (.int (nI k)), some (.int (sg (124 + (m - 1 - k)))), none]) dL_same_616 (by decide) rfl ?_
      refine wp_aload_n dL_same_618 rfl ?_
      refine wp_iconst (v := 0) dL_same_619 (by decide) ?_
      refine wp_iload dL_same_620 rfl ?_
      refine wp_cV2 (z := mX5_noted) (n' := 247) kL_33 dL_same_622 (Nat.le_of_ble_eq_true rfl) (Nat.le_of_ble_eq_true rfl) tA_8 (Nat.le_of_ble_eq_true rfl) (Nat.le_of_ble_eq_true rfl) (Nat.le_refl _) (Nat.le_refl _) (s_noted hc hng hm e123 hkm (wp_af ?_))
      refine wp_iload dL_same_625 rfl ?_
      refine wp_sipush (v := 10000) dL_same_627 (by decide) ?_
      refine wp_iadd dL_same_630 ?_
      refine wp_icmp_eq (tgt := 636) dL_same_631 (by decide) (fun h631 => ?_) (fun h631 => absurd rfl h631)
      refine wp_iload dL_same_636 rfl ?_
      refine wp_if_lt (tgt := 652) dL_same_638 (by decide) (fun h638 => ?_) (fun h638 => ?_)
      · refine wp_iload dL_same_652 rfl ?_
        refine wp_sipush (v := 10000) dL_same_654 (by decide) ?_
        refine wp_iadd dL_same_657 ?_
        refine wp_goto (tgt := 663) dL_same_658 (by decide) ?_
        refine wp_istore (L' := [some (.ref 8), some (.int x), some (.ref 235), some (.ref 236), some (.ref 237), some (.ref 238), some (.ref 239), some (.ref 240), some (.ref 241), some (.int (stpN sg (nP sg))), some (.int (nI (nP sg))), some (.int (sumN sg 40)), some (.int (swN sg 40)), some (.int (grN sg 40)), some (.int (lsN sg 40)), some (.long _), none, some (.long _), none, some (.long _), none, some (.long _), none, some (.long _), none, some (.int _), some (.int le), some (.int rs), some (.int (nI k)), some (.int (sg (124 + (m - 1 - k)))), none]) dL_same_663 (by decide) rfl ?_
        exact s665 _ _ (by
          first
            | exact h1.new hb (Or.inl h638)
            | exact h1.old hb h638 h649
            | exact h1.new hb (Or.inr h649))
      · refine wp_iload dL_same_641 rfl ?_
        refine wp_sipush (v := 10000) dL_same_643 (by decide) ?_
        refine wp_iadd dL_same_646 ?_
        refine wp_iload dL_same_647 rfl ?_
        refine wp_icmp_le (tgt := 661) dL_same_649 (by decide) (fun h649 => ?_) (fun h649 => ?_)
        · refine wp_iload dL_same_661 rfl ?_
          refine wp_istore (L' := [some (.ref 8), some (.int x), some (.ref 235), some (.ref 236), some (.ref 237), some (.ref 238), some (.ref 239), some (.ref 240), some (.ref 241), some (.int (stpN sg (nP sg))), some (.int (nI (nP sg))), some (.int (sumN sg 40)), some (.int (swN sg 40)), some (.int (grN sg 40)), some (.int (lsN sg 40)), some (.long _), none, some (.long _), none, some (.long _), none, some (.long _), none, some (.long _), none, some (.int mo), some (.int le), some (.int rs), some (.int (nI k)), some (.int (sg (124 + (m - 1 - k)))), none]) dL_same_663 (by decide) rfl ?_
          exact s665 _ _ (by
            first
              | exact h1.new hb (Or.inl h638)
              | exact h1.old hb h638 h649
              | exact h1.new hb (Or.inr h649))
        · refine wp_iload dL_same_652 rfl ?_
          refine wp_sipush (v := 10000) dL_same_654 (by decide) ?_
          refine wp_iadd dL_same_657 ?_
          refine wp_goto (tgt := 663) dL_same_658 (by decide) ?_
          refine wp_istore (L' := [some (.ref 8), some (.int x), some (.ref 235), some (.ref 236), some (.ref 237), some (.ref 238), some (.ref 239), some (.ref 240), some (.ref 241), some (.int (stpN sg (nP sg))), some (.int (nI (nP sg))), some (.int (sumN sg 40)), some (.int (swN sg 40)), some (.int (grN sg 40)), some (.int (lsN sg 40)), some (.long _), none, some (.long _), none, some (.long _), none, some (.long _), none, some (.long _), none, some (.int _), some (.int le), some (.int rs), some (.int (nI k)), some (.int (sg (124 + (m - 1 - k)))), none]) dL_same_663 (by decide) rfl ?_
          exact s665 _ _ (by
            first
              | exact h1.new hb (Or.inl h638)
              | exact h1.old hb h638 h649
              | exact h1.new hb (Or.inr h649))
  refine wp_drop [some (.ref 8), some (.int x), some (.ref 235), some (.ref 236), some (.ref 237), some (.ref 238), some (.ref 239), some (.ref 240), some (.ref 241), some (.int (stpN sg (nP sg))), some (.int (nI (nP sg))), some (.int (sumN sg 40)), some (.int (swN sg 40)), some (.int (grN sg 40)), some (.int (lsN sg 40)), some (.long (plcM sg (nP sg) 0 40)), none, some (.long (plcM sg (nP sg) 1 40)), none, some (.long (plcM sg (nP sg) 2 40)), none, some (.long (plcM sg (nP sg) 3 40)), none, some (.long (plcM sg (nP sg) 4 40)), none, none, none, none, none, none, none] (by simp [leL]) ?_
  refine wp_aload dL_same_571 rfl ?_
  refine wp_iconst (v := 0) dL_same_573 (by decide) ?_
  refine wp_iadn (i := 0) (v := nI c) rfl tA_240 (Nat.le_of_ble_eq_true rfl) (by rw [lA_240]; omega) (Nat.le_of_ble_eq_true rfl) dL_same_574 (g3) ?_
  refine wp_ifN_lt (a := c) (tgt := 820) dL_same_575 (by decide) rfl (by omega) ?_
  refine wp_bipush (v := (-6)) dL_same_578 (by decide) ?_
  refine wp_istore (L' := [some (.ref 8), some (.int x), some (.ref 235), some (.ref 236), some (.ref 237), some (.ref 238), some (.ref 239), some (.ref 240), some (.ref 241), some (.int (stpN sg (nP sg))), some (.int (nI (nP sg))), some (.int (sumN sg 40)), some (.int (swN sg 40)), some (.int (grN sg 40)), some (.int (lsN sg 40)), some (.long _), none, some (.long _), none, some (.long _), none, some (.long _), none, some (.long _), none, some (.int (-6)), none, none, none, none, none]) dL_same_580 (by decide) rfl ?_
  refine wp_bipush (v := (-6)) dL_same_582 (by decide) ?_
  refine wp_istore (L' := [some (.ref 8), some (.int x), some (.ref 235), some (.ref 236), some (.ref 237), some (.ref 238), some (.ref 239), some (.ref 240), some (.ref 241), some (.int (stpN sg (nP sg))), some (.int (nI (nP sg))), some (.int (sumN sg 40)), some (.int (swN sg 40)), some (.int (grN sg 40)), some (.int (lsN sg 40)), some (.long _), none, some (.long _), none, some (.long _), none, some (.long _), none, some (.long _), none, some (.int (-6)), some (.int (-6)), none, none, none, none]) dL_same_584 (by decide) rfl ?_
  refine wp_iconst (v := 0) dL_same_586 (by decide) ?_
  refine wp_istore (L' := [some (.ref 8), some (.int x), some (.ref 235), some (.ref 236), some (.ref 237), some (.ref 238), some (.ref 239), some (.ref 240), some (.ref 241), some (.int (stpN sg (nP sg))), some (.int (nI (nP sg))), some (.int (sumN sg 40)), some (.int (swN sg 40)), some (.int (grN sg 40)), some (.int (lsN sg 40)), some (.long _), none, some (.long _), none, some (.long _), none, some (.long _), none, some (.long _), none, some (.int (-6)), some (.int (-6)), some (.int _), none, none, none]) dL_same_587 (by decide) rfl ?_
  refine wp_iconst (v := 0) dL_same_589 (by decide) ?_
  refine wp_istore (L' := [some (.ref 8), some (.int x), some (.ref 235), some (.ref 236), some (.ref 237), some (.ref 238), some (.ref 239), some (.ref 240), some (.ref 241), some (.int (stpN sg (nP sg))), some (.int (nI (nP sg))), some (.int (sumN sg 40)), some (.int (swN sg 40)), some (.int (grN sg 40)), some (.int (lsN sg 40)), some (.long _), none, some (.long _), none, some (.long _), none, some (.long _), none, some (.long _), none, some (.int (-6)), some (.int (-6)), some (.int _), some (.int _), none, none]) dL_same_590 (by decide) rfl ?_
  exact loop m 0 _ _ _ _ _ (by omega) (Or.inl ⟨rfl, rfl⟩) (Or.inl ⟨rfl, rfl⟩) (by rw [Nat.sub_zero, Int32.zero_add])

set_option maxRecDepth 100000 in
set_option maxHeartbeats 4000000 in
theorem s_L_same {γ : Gm} {l : Launch} {M : Mm} {R : Rm} {K : KT} {x : Int32} {sg tx F : Nat → Int32} {rc pl : Nat} {hs S : Nat → Nat → Int32} {s : Nat}  (hc : IC M R sg rc hs F S tx pl) (hl : LT M 234 238 (nP sg) sg) (hq4 : M 235 4 = nI (nP sg)) (hG : GL (M 240) (M 241) sg s) (hl3 : M 235 3 = nI s) (hs5 : s ≤ 5000) (hK : K (some (.int 1)) 247 M R) : CL γ l mL_same 7 247 247 [.ref 8, .int x, .ref 235, .ref 236, .ref 237, .ref 238, .ref 239, .ref 240, .ref 241] M R K := by
  show WP γ l mL_same 7 247 247 0 [some (.ref 8), some (.int x), some (.ref 235), some (.ref 236), some (.ref 237), some (.ref 238), some (.ref 239), some (.ref 240), some (.ref 241), none, none, none, none, none, none, none, none, none, none, none, none, none, none, none, none, none, none, none, none, none, none] [] 247 M R K
  have loop : ∀ (q c : Nat) (v9 v11 v12 v13 v14 : Int32) (w15 w17 w19 w21 w23 : Int64) (p10 : Nat) (t26 t27 t28 t29 t30 : Option Value), q + c = 40 → v9 = stpN sg (cq (M 238) c) → v11 = sumN sg c → v12 = swN sg c → v13 = grN sg c → v14 = lsN sg c → w15 = plcM sg (nP sg) 0 c → w17 = plcM sg (nP sg) 1 c → w19 = plcM sg (nP sg) 2 c → w21 = plcM sg (nP sg) 3 c → w23 = plcM sg (nP sg) 4 c → p10 = cq (M 238) c → WP γ l mL_same 7 247 247 37 [some (.ref 8), some (.int x), some (.ref 235), some (.ref 236), some (.ref 237), some (.ref 238), some (.ref 239), some (.ref 240), some (.ref 241), some (.int v9), some (.int (nI p10)), some (.int v11), some (.int v12), some (.int v13), some (.int v14), some (.long w15), none, some (.long w17), none, some (.long w19), none, some (.long w21), none, some (.long w23), none, some (.int (nI c)), t26, t27, t28, t29, t30] [] 247 M R K := by
    intro q
    induction q with
    | zero =>
      intro c v9 v11 v12 v13 v14 w15 w17 w19 w21 w23 p10 t26 t27 t28 t29 t30 hq e9 e11 e12 e13 e14 e15 e17 e19 e21 e23 e10
      obtain rfl : c = 40 := by omega
      have e40 : cq (M 238) 40 = nP sg := by rw [cq_hi (by omega)]; exact hl.pl.2.2.1
      rw [e40] at e9 e10
      subst e9 e11 e12 e13 e14 e15 e17 e19 e21 e23 e10
      refine wp_iload dL_same_37 rfl ?_
      refine wp_bipush (v := 40) dL_same_39 (by decide) ?_
      refine wp_icN_ge (a := 40) (b := 40) (tgt := 571) dL_same_41 (by decide) rfl rfl (by omega) (by omega) (fun _ => ?_) (fun h => absurd h (by decide))
      rcases hG with ⟨q5, q0, q1⟩ | hG
      · refine wp_aload dL_same_571 rfl ?_
        refine wp_iconst (v := 0) dL_same_573 (by decide) ?_
        refine wp_iadn (i := 0) rfl tA_240 (Nat.le_of_ble_eq_true rfl) (by rw [lA_240]; omega) (Nat.le_of_ble_eq_true rfl) dL_same_574 (q0) ?_
        refine wp_if_lt (tgt := 820) dL_same_575 (by decide) (fun h575 => ?_) (fun h575 => absurd (by decide) h575)
        exact sm_820 hc hl hq4 q0 (fun h => absurd h (by decide)) (fun _ => q5) hK
      · exact sm_571 hc hl hq4 hG hl3 hs5 hK
    | succ q ih =>
      intro c v9 v11 v12 v13 v14 w15 w17 w19 w21 w23 p10 t26 t27 t28 t29 t30 hq e9 e11 e12 e13 e14 e15 e17 e19 e21 e23 e10
      subst e10
      exact sm_37 hc hl (by omega) e9 e11 e12 e13 e14 e15 e17 e19 e21 e23 (fun u9 u11 u12 u13 u14 z15 z17 z19 z21 z23 p t26 t27 t28 t29 t30 n9 n11 n12 n13 n14 n15 n17 n19 n21 n23 n10 => ih (c + 1) _ _ _ _ _ _ _ _ _ _ _ _ _ _ _ _ (by omega) n9 n11 n12 n13 n14 n15 n17 n19 n21 n23 n10)
  refine wp_iconst (v := 0) dL_same_0 (by decide) ?_
  refine wp_istore (L' := [some (.ref 8), some (.int x), some (.ref 235), some (.ref 236), some (.ref 237), some (.ref 238), some (.ref 239), some (.ref 240), some (.ref 241), some (.int _), none, none, none, none, none, none, none, none, none, none, none, none, none, none, none, none, none, none, none, none, none]) dL_same_1 (by decide) rfl ?_
  refine wp_iconst (v := 0) dL_same_3 (by decide) ?_
  refine wp_istore (L' := [some (.ref 8), some (.int x), some (.ref 235), some (.ref 236), some (.ref 237), some (.ref 238), some (.ref 239), some (.ref 240), some (.ref 241), some (.int _), some (.int _), none, none, none, none, none, none, none, none, none, none, none, none, none, none, none, none, none, none, none, none]) dL_same_4 (by decide) rfl ?_
  refine wp_iconst (v := 0) dL_same_6 (by decide) ?_
  refine wp_istore (L' := [some (.ref 8), some (.int x), some (.ref 235), some (.ref 236), some (.ref 237), some (.ref 238), some (.ref 239), some (.ref 240), some (.ref 241), some (.int _), some (.int _), some (.int _), none, none, none, none, none, none, none, none, none, none, none, none, none, none, none, none, none, none, none]) dL_same_7 (by decide) rfl ?_
  refine wp_iconst (v := 0) dL_same_9 (by decide) ?_
  refine wp_istore (L' := [some (.ref 8), some (.int x), some (.ref 235), some (.ref 236), some (.ref 237), some (.ref 238), some (.ref 239), some (.ref 240), some (.ref 241), some (.int _), some (.int _), some (.int _), some (.int _), none, none, none, none, none, none, none, none, none, none, none, none, none, none, none, none, none, none]) dL_same_10 (by decide) rfl ?_
  refine wp_iconst (v := 0) dL_same_12 (by decide) ?_
  refine wp_istore (L' := [some (.ref 8), some (.int x), some (.ref 235), some (.ref 236), some (.ref 237), some (.ref 238), some (.ref 239), some (.ref 240), some (.ref 241), some (.int _), some (.int _), some (.int _), some (.int _), some (.int _), none, none, none, none, none, none, none, none, none, none, none, none, none, none, none, none, none]) dL_same_13 (by decide) rfl ?_
  refine wp_bipush (v := (-6)) dL_same_15 (by decide) ?_
  refine wp_istore (L' := [some (.ref 8), some (.int x), some (.ref 235), some (.ref 236), some (.ref 237), some (.ref 238), some (.ref 239), some (.ref 240), some (.ref 241), some (.int _), some (.int _), some (.int _), some (.int _), some (.int _), some (.int (-6)), none, none, none, none, none, none, none, none, none, none, none, none, none, none, none, none]) dL_same_17 (by decide) rfl ?_
  refine wp_lconst (v := 0) dL_same_19 rfl ?_
  refine wp_lstore (L' := [some (.ref 8), some (.int x), some (.ref 235), some (.ref 236), some (.ref 237), some (.ref 238), some (.ref 239), some (.ref 240), some (.ref 241), some (.int _), some (.int _), some (.int _), some (.int _), some (.int _), some (.int (-6)), some (.long _), none, none, none, none, none, none, none, none, none, none, none, none, none, none, none]) dL_same_20 (by decide) rfl ?_
  refine wp_lconst (v := 0) dL_same_22 rfl ?_
  refine wp_lstore (L' := [some (.ref 8), some (.int x), some (.ref 235), some (.ref 236), some (.ref 237), some (.ref 238), some (.ref 239), some (.ref 240), some (.ref 241), some (.int _), some (.int _), some (.int _), some (.int _), some (.int _), some (.int (-6)), some (.long _), none, some (.long _), none, none, none, none, none, none, none, none, none, none, none, none, none]) dL_same_23 (by decide) rfl ?_
  refine wp_lconst (v := 0) dL_same_25 rfl ?_
  refine wp_lstore (L' := [some (.ref 8), some (.int x), some (.ref 235), some (.ref 236), some (.ref 237), some (.ref 238), some (.ref 239), some (.ref 240), some (.ref 241), some (.int _), some (.int _), some (.int _), some (.int _), some (.int _), some (.int (-6)), some (.long _), none, some (.long _), none, some (.long _), none, none, none, none, none, none, none, none, none, none, none]) dL_same_26 (by decide) rfl ?_
  refine wp_lconst (v := 0) dL_same_28 rfl ?_
  refine wp_lstore (L' := [some (.ref 8), some (.int x), some (.ref 235), some (.ref 236), some (.ref 237), some (.ref 238), some (.ref 239), some (.ref 240), some (.ref 241), some (.int _), some (.int _), some (.int _), some (.int _), some (.int _), some (.int (-6)), some (.long _), none, some (.long _), none, some (.long _), none, some (.long _), none, none, none, none, none, none, none, none, none]) dL_same_29 (by decide) rfl ?_
  refine wp_lconst (v := 0) dL_same_31 rfl ?_
  refine wp_lstore (L' := [some (.ref 8), some (.int x), some (.ref 235), some (.ref 236), some (.ref 237), some (.ref 238), some (.ref 239), some (.ref 240), some (.ref 241), some (.int _), some (.int _), some (.int _), some (.int _), some (.int _), some (.int (-6)), some (.long _), none, some (.long _), none, some (.long _), none, some (.long _), none, some (.long _), none, none, none, none, none, none, none]) dL_same_32 (by decide) rfl ?_
  refine wp_iconst (v := 0) dL_same_34 (by decide) ?_
  refine wp_istore (L' := [some (.ref 8), some (.int x), some (.ref 235), some (.ref 236), some (.ref 237), some (.ref 238), some (.ref 239), some (.ref 240), some (.ref 241), some (.int _), some (.int _), some (.int _), some (.int _), some (.int _), some (.int (-6)), some (.long _), none, some (.long _), none, some (.long _), none, some (.long _), none, some (.long _), none, some (.int _), none, none, none, none, none]) dL_same_35 (by decide) rfl ?_
  exact loop 40 0 _ _ _ _ _ _ _ _ _ _ 0 _ _ _ _ _ rfl rfl rfl rfl rfl rfl rfl rfl rfl rfl rfl rfl

