/-! THE CLASS: the reading of orders -/
/-- what is left of a recipe behind its height -/
def rdT (tx : Nat → Int32) (pl t s : Nat) (v : Int32) (a2 : Nat) : Option (Nat × Nat × Int32 × Nat × Nat) × Nat :=
  match rdN tx pl (a2 + 1) with
  | none => (none, a2 + 1)
  | some (p, a3) => if nx tx pl a3 43 then match rdN tx pl (a3 + 1) with
    | none => (none, a3 + 1)
    | some (f, a4) => (some (t, s, v, p, f), a4)
    else (some (t, s, v, p, 0), a3)
theorem rdR_nf {tx : Nat → Int32} {pl a t a1 s a2 : Nat} {v : Int32} (e1 : rdN tx pl a = some (t, a1)) (e2 : rdS tx pl a1 = some s) (e3 : rdV tx pl (a1 + 1) = some (v, a2)) (e4 : nx tx pl a2 47) : rdR tx pl a = rdT tx pl t s v a2 := by
  rw [rdR, e1]
  dsimp only
  rw [e2]
  dsimp only
  rw [e3]
  dsimp only
  rw [if_pos e4, rdT]
  rcases rdN tx pl (a2 + 1) with _ | ⟨p, a3⟩
  · rfl
  · dsimp only
    by_cases h : nx tx pl a3 43
    · rw [if_pos h, if_pos h]
      rcases rdN tx pl (a3 + 1) with _ | ⟨f, a4⟩ <;> rfl
    · rw [if_neg h, if_neg h]
set_option maxRecDepth 100000 in
set_option maxHeartbeats 4000000 in
theorem s_X2_readPaddle {γ : Gm} {l : Launch} {M : Mm} {R : Rm} {K : KT} {M0 : Mm} {tx : Nat → Int32} {pl a : Nat} {k t s v p f : Int32}  (hC : RC R) (hX : PD M0 M tx pl a k t s v p f) (hp : pl ≤ 80) (ha : a ≤ 150) (hK : ∀ M1 t1 s1 v1 p1 f1, (∀ t2 s2 v2 p2 f2, (rdR tx pl a).1 = some (t2, s2, v2, p2, f2) → t1 = nI t2 ∧ s1 = nI s2 ∧ v1 = v2 ∧ p1 = nI p2 ∧ f1 = nI f2) → PD M0 M1 tx pl (rdR tx pl a).2 k t1 s1 v1 p1 f1 → K (some (.int (b01 ((rdR tx pl a).1.isSome = true)))) 243 M1 R) : CL γ l mX2_readPaddle 4 243 243 [.ref 29] M R K := by
  show WP γ l mX2_readPaddle 4 243 243 0 [some (.ref 29)] [] 243 M R K
  have no : ∀ M1 e t s v p f, rdR tx pl a = (none, e) → PD M0 M1 tx pl e k t s v p f → K (some (.int 0)) 243 M1 R := fun M1 e t s v p f h1 h2 => by
    have := hK M1 t s v p f (fun _ _ _ _ _ hq => by rw [h1] at hq; cases hq) (by rw [h1]; exact h2)
    rwa [b01_f (by rw [h1]; simp)] at this
  have yes : ∀ M1 e t1 s1 v1 p1 f1, rdR tx pl a = (some (t1, s1, v1, p1, f1), e) → PD M0 M1 tx pl e k (nI t1) (nI s1) v1 (nI p1) (nI f1) → K (some (.int 1)) 243 M1 R := fun M1 e t1 s1 v1 p1 f1 h1 h2 => by
    have := hK M1 _ _ _ _ _ (fun _ _ _ _ _ hq => by rw [h1] at hq; cases hq; exact ⟨rfl, rfl, rfl, rfl, rfl⟩) (by rw [h1]; exact h2)
    rwa [b01_t (by rw [h1]; rfl)] at this
  have tail : ∀ M1 e t s v p f, PD M0 M1 tx pl e k t s v p f → ((p < 0 ∨ f < 0) → K (some (.int 0)) 243 M1 R) → (¬ p < 0 → ¬ f < 0 → K (some (.int 1)) 243 M1 R) → WP γ l mX2_readPaddle 4 243 243 69 [some (.ref 29)] [] 243 M1 R K := by
    intro M1 e t s v p f h1 hn hy
    refine wp_aload_n dX2_readPaddle_69 rfl ?_
    refine wp_getJ fX2_58 tA_29 rfl (Nat.le_of_ble_eq_true rfl) dX2_readPaddle_70 (h1.pp) ?_
    refine wp_if_lt (tgt := 87) dX2_readPaddle_73 (by decide) (fun h73 => ?_) (fun h73 => ?_)
    · refine wp_iconst (v := 0) dX2_readPaddle_87 (by decide) ?_
      exact wp_iret dX2_readPaddle_88 rfl rfl rfl (by first | exact hy h73 h80 | exact hn (Or.inl h73) | exact hn (Or.inr h80))
    · refine wp_aload_n dX2_readPaddle_76 rfl ?_
      refine wp_getJ fX2_61 tA_29 rfl (Nat.le_of_ble_eq_true rfl) dX2_readPaddle_77 (h1.pf) ?_
      refine wp_if_lt (tgt := 87) dX2_readPaddle_80 (by decide) (fun h80 => ?_) (fun h80 => ?_)
      · refine wp_iconst (v := 0) dX2_readPaddle_87 (by decide) ?_
        exact wp_iret dX2_readPaddle_88 rfl rfl rfl (by first | exact hy h73 h80 | exact hn (Or.inl h73) | exact hn (Or.inr h80))
      · refine wp_iconst (v := 1) dX2_readPaddle_83 (by decide) ?_
        refine wp_goto (tgt := 88) dX2_readPaddle_84 (by decide) ?_
        exact wp_iret dX2_readPaddle_88 rfl rfl rfl (by first | exact hy h73 h80 | exact hn (Or.inl h73) | exact hn (Or.inr h80))
  refine wp_aload_n dX2_readPaddle_0 rfl ?_
  refine wp_cV0 (z := mX2_readTarget) (n' := 243) kX2_46 dX2_readPaddle_1 (Nat.le_of_ble_eq_true rfl) (Nat.le_of_ble_eq_true rfl) tA_29 (Nat.le_of_ble_eq_true rfl) (Nat.le_of_ble_eq_true rfl) (Nat.le_refl _) (Nat.le_refl _) (s_X2_readTarget hC hX hp (by omega) (fun M1 g1 => (wp_af ?_)))
  refine wp_bq_eq (tgt := 30) dX2_readPaddle_4 (by decide) (fun h4 => ?_) (fun h4 => ?_)
  · have q0 := not_some h4
    rw [(rn_none q0).2] at g1
    have q1 : rdR tx pl a = (none, a) := by rw [rdR, q0]
    have q2 := g1
    refine wp_iconst (v := 0) dX2_readPaddle_30 (by decide) ?_
    exact wp_iret dX2_readPaddle_31 rfl rfl rfl (no _ _ _ _ _ _ _ q1 q2)
  · obtain ⟨⟨t1, a1⟩, e1⟩ := some_of h4
    have i1 := rdN_in e1
    rw [(rn_some e1).1, (rn_some e1).2] at g1
    refine wp_aload_n dX2_readPaddle_7 rfl ?_
    refine wp_cV0 (z := mX2_readSort) (n' := 243) kX2_52 dX2_readPaddle_8 (Nat.le_of_ble_eq_true rfl) (Nat.le_of_ble_eq_true rfl) tA_29 (Nat.le_of_ble_eq_true rfl) (Nat.le_of_ble_eq_true rfl) (Nat.le_refl _) (Nat.le_refl _) (s_X2_readSort hC g1 hp (by omega) (fun M2 c2 s2 u1 u2 g2 => (wp_af ?_)))
    refine wp_bq_eq (tgt := 30) dX2_readPaddle_11 (by decide) (fun h11 => ?_) (fun h11 => ?_)
    · have q0 := not_some h11
      obtain rfl := u1 q0
      have q1 : rdR tx pl a = (none, c2) := by rw [rdR, e1]; dsimp only; rw [q0]
      have q2 := g2
      refine wp_iconst (v := 0) dX2_readPaddle_30 (by decide) ?_
      exact wp_iret dX2_readPaddle_31 rfl rfl rfl (no _ _ _ _ _ _ _ q1 q2)
    · obtain ⟨s1, e2⟩ := some_of h11
      obtain ⟨rfl, rfl⟩ := u2 s1 e2
      refine wp_aload_n dX2_readPaddle_14 rfl ?_
      refine wp_cV0 (z := mX2_readValue) (n' := 243) kX2_49 dX2_readPaddle_15 (Nat.le_of_ble_eq_true rfl) (Nat.le_of_ble_eq_true rfl) tA_29 (Nat.le_of_ble_eq_true rfl) (Nat.le_of_ble_eq_true rfl) (Nat.le_refl _) (Nat.le_refl _) (s_X2_readValue hC g2 hp (by omega) (fun M3 c3 v3 u3 u4 g3 => (wp_af ?_)))
      refine wp_bq_eq (tgt := 30) dX2_readPaddle_18 (by decide) (fun h18 => ?_) (fun h18 => ?_)
      · have q0 := not_some h18
        obtain rfl := u3 q0
        have q1 : rdR tx pl a = (none, vF tx pl (a1 + 1)) := by rw [rdR, e1]; dsimp only; rw [e2]; dsimp only; rw [q0]
        have q2 := g3
        refine wp_iconst (v := 0) dX2_readPaddle_30 (by decide) ?_
        exact wp_iret dX2_readPaddle_31 rfl rfl rfl (no _ _ _ _ _ _ _ q1 q2)
      · obtain ⟨⟨v1, a2⟩, e3⟩ := some_of h18
        obtain ⟨rfl, rfl⟩ := u4 v1 a2 e3
        have i3 := rdV_in e3
        refine wp_aload_n dX2_readPaddle_21 rfl ?_
        refine wp_bipush (v := 47) dX2_readPaddle_22 (by decide) ?_
        refine wp_cV1 (z := mX2_accept) (n' := 243) kX2_32 dX2_readPaddle_24 (Nat.le_of_ble_eq_true rfl) (Nat.le_of_ble_eq_true rfl) tA_29 (Nat.le_of_ble_eq_true rfl) (Nat.le_of_ble_eq_true rfl) (Nat.le_refl _) (Nat.le_refl _) (s_X2_accept hC g3 hp (by omega) (by decide) (fun M4 g4 => (wp_af ?_)))
        refine wp_bq_ne (tgt := 32) dX2_readPaddle_27 (by decide) (fun h27 => ?_) (fun h27 => ?_)
        · rw [if_pos h27] at g4
          have nf := rdR_nf e1 e2 e3 h27
          refine wp_aload_n dX2_readPaddle_32 rfl ?_
          refine wp_aload_n dX2_readPaddle_33 rfl ?_
          refine wp_cV0 (z := mX2_readNumber) (n' := 243) kX2_55 dX2_readPaddle_34 (Nat.le_of_ble_eq_true rfl) (Nat.le_of_ble_eq_true rfl) tA_29 (Nat.le_of_ble_eq_true rfl) (Nat.le_of_ble_eq_true rfl) (Nat.le_refl _) (Nat.le_refl _) (s_X2_readNumber hC g4 hp (by omega) (fun M5 g5 => (wp_af ?_)))
          refine wp_putI pX2_58 tA_29 rfl ⟨rfl, rfl⟩ (Nat.le_of_ble_eq_true rfl) dX2_readPaddle_37 ?_
          refine wp_aload_n dX2_readPaddle_40 rfl ?_
          refine wp_iconst (v := 0) dX2_readPaddle_41 (by decide) ?_
          refine wp_putI pX2_61 tA_29 rfl ⟨rfl, rfl⟩ (Nat.le_of_ble_eq_true rfl) dX2_readPaddle_42 ?_
          refine wp_aload_n dX2_readPaddle_45 rfl ?_
          refine wp_getJ fX2_58 tA_29 rfl (Nat.le_of_ble_eq_true rfl) dX2_readPaddle_46 (((g5.w7 _).w8 0).pp) ?_
          refine wp_if_lt (tgt := 69) dX2_readPaddle_49 (by decide) (fun h49 => ?_) (fun h49 => ?_)
          · have q0 := rn_lt h49
            rw [rdT, q0] at nf
            dsimp only at nf
            have g9 := (g5.w7 (rnV tx pl (c3 + 1))).w8 0
            rw [(rn_none q0).2] at g9
            exact tail _ _ _ _ _ _ _ g9 (fun _ => no _ _ _ _ _ _ _ nf g9) (fun h _ => absurd h49 h)
          · obtain ⟨p1, a3, e5⟩ := rn_ge h49
            have i5 := rdN_in e5
            rw [rdT, e5] at nf
            dsimp only at nf
            have g6 := (g5.w7 (rnV tx pl (c3 + 1))).w8 0
            rw [(rn_some e5).2] at g6
            refine wp_aload_n dX2_readPaddle_52 rfl ?_
            refine wp_bipush (v := 43) dX2_readPaddle_53 (by decide) ?_
            refine wp_cV1 (z := mX2_accept) (n' := 243) kX2_32 dX2_readPaddle_55 (Nat.le_of_ble_eq_true rfl) (Nat.le_of_ble_eq_true rfl) tA_29 (Nat.le_of_ble_eq_true rfl) (Nat.le_of_ble_eq_true rfl) (Nat.le_refl _) (Nat.le_refl _) (s_X2_accept hC g6 hp (by omega) (by decide) (fun M6 g7 => (wp_af ?_)))
            refine wp_bq_eq (tgt := 69) dX2_readPaddle_58 (by decide) (fun h58 => ?_) (fun h58 => ?_)
            · rw [if_neg h58] at g7 nf
              refine tail _ _ _ _ _ _ _ g7 (fun h => absurd h (by rw [(rn_some e5).1]; exact fun h => h.elim (nI_pos (by omega)) (by decide))) (fun _ _ => ?_)
              rw [(rn_some e5).1] at g7
              exact yes _ _ _ _ _ _ 0 nf g7
            · rw [if_pos h58] at g7 nf
              refine wp_aload_n dX2_readPaddle_61 rfl ?_
              refine wp_aload_n dX2_readPaddle_62 rfl ?_
              refine wp_cV0 (z := mX2_readNumber) (n' := 243) kX2_55 dX2_readPaddle_63 (Nat.le_of_ble_eq_true rfl) (Nat.le_of_ble_eq_true rfl) tA_29 (Nat.le_of_ble_eq_true rfl) (Nat.le_of_ble_eq_true rfl) (Nat.le_refl _) (Nat.le_refl _) (s_X2_readNumber hC g7 hp (by omega) (fun M7 g8 => (wp_af ?_)))
              refine wp_putI pX2_61 tA_29 rfl ⟨rfl, rfl⟩ (Nat.le_of_ble_eq_true rfl) dX2_readPaddle_66 ?_
              refine tail _ _ _ _ _ _ _ (g8.w8 _) (fun h => ?_) (fun _ h => ?_)
              · rcases h with h | h
                · rw [(rn_some e5).1] at h
                  exact absurd h (nI_pos (by omega))
                · have q0 := rn_lt h
                  rw [q0] at nf
                  dsimp only at nf
                  have := g8.w8 (rnV tx pl (a3 + 1))
                  rw [(rn_none q0).2] at this
                  exact no _ _ _ _ _ _ _ nf this
              · obtain ⟨f1, a4, e6⟩ := rn_ge h
                rw [e6] at nf
                dsimp only at nf
                have := g8.w8 (rnV tx pl (a3 + 1))
                rw [(rn_some e6).2, (rn_some e5).1] at this
                rw [(rn_some e6).1] at this ⊢
                exact yes _ _ _ _ _ _ _ nf this
        · rw [if_neg h27] at g4
          have q1 : rdR tx pl a = (none, c3) := by rw [rdR, e1]; dsimp only; rw [e2]; dsimp only; rw [e3]; dsimp only; rw [if_neg h27]
          have q2 := g4
          refine wp_iconst (v := 0) dX2_readPaddle_30 (by decide) ?_
          exact wp_iret dX2_readPaddle_31 rfl rfl rfl (no _ _ _ _ _ _ _ q1 q2)

