/-! THE REFERENCE: the gauges note; a step; steps -/
set_option maxRecDepth 100000 in
set_option maxHeartbeats 4000000 in
theorem s_X6_note {γ : Gm} {l : Launch} {M : Mm} {R : Rm} {K : KT} {ng : Nat} {sg : Nat → Int32} (hs : M 236 = sg) (hM : RM R) (hn : sg 5 = nI ng) (h4 : ng ≤ 4) (hp : GgS sg ng) (hK : K none 243 (up M 236 (ntN sg ng)) R) : CL γ l mX6_note 1 243 243 [.ref 235] M R K := by
  show WP γ l mX6_note 1 243 243 0 [some (.ref 235), none, none, none] [] 243 M R K
  have loop : ∀ (f g : Nat) (ro : Nat → Int32), ro = ntN sg g → ng - g < f → g ≤ ng → WP γ l mX6_note 1 243 243 2 [some (.ref 235), some (.int (nI g)), none, none] [] 243 (up M 236 ro) R K := by
    intro f
    induction f with
    | zero => intro g ro _ h; omega
    | succ f ih =>
      intro g ro hro hf hg
      have r5 : ro 5 = nI ng := by rw [hro, ntN_same hp hg (by omega), hn]
      have tail : ∀ (c m2 : Nat) (r : Nat → Int32), g < 4 → g < ng → m2 < 60 → c < 40 → r (122 + 62 * g + 1) = nI m2 → r (122 + 62 * g) = nI c → up (up r (122 + 62 * g + 2 + m2) (r (6 + c))) (122 + 62 * g + 1) (nI (m2 + 1)) = nt1 ro g → WP γ l mX6_note 1 243 243 81 [some (.ref 235), some (.int (nI g)), some (.int (nI (122 + 62 * g))), none] [] 243 (up M 236 r) R K := by
        intro c m2 r hg4 hgn h60 h40 hm2 hc hrow
        refine wp_aload_n dX6_note_81 rfl ?_
        refine wp_getQ fX6_7 tA_235 rfl hM.f0 (by decide) (Nat.le_of_ble_eq_true rfl) dX6_note_82 ?_
        refine wp_iload_n dX6_note_85 rfl ?_
        refine wp_iconst (v := 2) dX6_note_86 (by decide) ?_
        refine wp_iadd dX6_note_87 ?_
        refine wp_aload_n dX6_note_88 rfl ?_
        refine wp_getQ fX6_7 tA_235 rfl hM.f0 (by decide) (Nat.le_of_ble_eq_true rfl) dX6_note_89 ?_
        refine wp_iload_n dX6_note_92 rfl ?_
        refine wp_iconst (v := 1) dX6_note_93 (by decide) ?_
        refine wp_iadd dX6_note_94 ?_
        refine wp_iadn (i := ((122 + 62 * g) + 1)) (ix_add rfl rfl) tA_236 (Nat.le_of_ble_eq_true rfl) (by rw [lA_236]; omega) (Nat.le_of_ble_eq_true rfl) dX6_note_95 ((congrFun (up_s _ _ _) _).trans (hm2)) ?_
        refine wp_iadd dX6_note_96 ?_
        refine wp_aload_n dX6_note_97 rfl ?_
        refine wp_aload_n dX6_note_98 rfl ?_
        refine wp_getQ fX6_7 tA_235 rfl hM.f0 (by decide) (Nat.le_of_ble_eq_true rfl) dX6_note_99 ?_
        refine wp_iload_n dX6_note_102 rfl ?_
        refine wp_iadn (i := (122 + 62 * g)) rfl tA_236 (Nat.le_of_ble_eq_true rfl) (by rw [lA_236]; omega) (Nat.le_of_ble_eq_true rfl) dX6_note_103 ((congrFun (up_s _ _ _) _).trans ((by exact hc))) ?_
        refine wp_cV1 (z := mX6_levelOf) (n' := 243) kX6_47 dX6_note_104 (Nat.le_of_ble_eq_true rfl) (Nat.le_of_ble_eq_true rfl) tA_235 (Nat.le_of_ble_eq_true rfl) (Nat.le_of_ble_eq_true rfl) (Nat.le_refl _) (Nat.le_refl _) (s_X6_levelOf (up_s _ _ _) (c := c) hM (by omega) (wp_af ?_))
        refine wp_iast (i := (((122 + 62 * g) + 2) + m2)) (ix_add (ix_add rfl rfl) rfl) tA_236 (Nat.le_of_ble_eq_true rfl) (by rw [lA_236]; omega) (Nat.le_of_ble_eq_true rfl) dX6_note_107 ?_
        refine wp_mem (u2_up _ _ _ _ _) ?_
        refine wp_aload_n dX6_note_108 rfl ?_
        refine wp_getQ fX6_7 tA_235 rfl hM.f0 (by decide) (Nat.le_of_ble_eq_true rfl) dX6_note_109 ?_
        refine wp_iload_n dX6_note_112 rfl ?_
        refine wp_iconst (v := 1) dX6_note_113 (by decide) ?_
        refine wp_iadd dX6_note_114 ?_
        refine wp_dup2 dX6_note_115 rfl rfl ?_
        refine wp_iadn (i := ((122 + 62 * g) + 1)) (ix_add rfl rfl) tA_236 (Nat.le_of_ble_eq_true rfl) (by rw [lA_236]; omega) (Nat.le_of_ble_eq_true rfl) dX6_note_116 ((congrFun (up_s _ _ _) _).trans ((up_n _ _ (by omega)).trans hm2)) ?_
        refine wp_iconst (v := 1) dX6_note_117 (by decide) ?_
        refine wp_iadd dX6_note_118 ?_
        refine wp_top (nI_1 _) ?_
        refine wp_iast (i := ((122 + 62 * g) + 1)) (ix_add rfl rfl) tA_236 (Nat.le_of_ble_eq_true rfl) (by rw [lA_236]; omega) (Nat.le_of_ble_eq_true rfl) dX6_note_119 ?_
        refine wp_mem (u2_up _ _ _ _ _) ?_
        refine wp_iinc (v := nI (g + 1)) (L' := [some (.ref 235), some (.int (nI (g + 1))), some (.int (nI (122 + 62 * g))), none]) dX6_note_120 (by decide) rfl (inc_1 _) rfl ?_
        refine wp_goto (tgt := 2) dX6_note_123 (by decide) ?_
        refine wp_drop [some (.ref 235), some (.int _), none, none] (by repeat constructor) ?_
        refine ih (g + 1) _ ?_ (by omega) (by omega)
        show _ = nt1 (ntN sg g) g
        rw [← hro]
        exact hrow
      refine wp_iload_n dX6_note_2 rfl ?_
      refine wp_aload_n dX6_note_3 rfl ?_
      refine wp_getQ fX6_7 tA_235 rfl hM.f0 (by decide) (Nat.le_of_ble_eq_true rfl) dX6_note_4 ?_
      refine wp_iconst (v := 5) dX6_note_7 (by decide) ?_
      refine wp_iadn (i := 5) rfl tA_236 (Nat.le_of_ble_eq_true rfl) (by rw [lA_236]; omega) (Nat.le_of_ble_eq_true rfl) dX6_note_8 ((congrFun (up_s _ _ _) _).trans (r5)) ?_
      refine wp_icN_ge (a := g) (b := ng) (tgt := 126) dX6_note_9 (by decide) rfl rfl (by omega) (by omega) (fun h9 => ?_) (fun h9 => ?_)
      · exact wp_vret dX6_note_126 rfl rfl (by rw [hro, show g = ng by omega]; exact hK)
      · obtain ⟨⟨c, h40, hc0⟩, m, h60, hm0⟩ := hp g h9
        have hc : ro (122 + 62 * g) = nI c := by rw [hro, ntN_same hp hg (by omega)]; exact hc0
        have hm : ro (122 + 62 * g + 1) = nI m := by rw [hro, ntN_same hp hg (by omega)]; exact hm0
        have hV : ntV ro g = ro (6 + c) := by rw [ntV, hc, nI_clamp (by omega)]
        refine wp_bipush (v := 122) dX6_note_12 (by decide) ?_
        refine wp_bipush (v := 62) dX6_note_14 (by decide) ?_
        refine wp_iload_n dX6_note_16 rfl ?_
        refine wp_imul dX6_note_17 ?_
        refine wp_iadd dX6_note_18 ?_
        refine wp_top (ix_add rfl (ix_mul rfl rfl)) ?_
        refine wp_istore_n (L' := [some (.ref 235), some (.int (nI g)), some (.int (nI (122 + 62 * g))), none]) dX6_note_19 (by decide) rfl ?_
        refine wp_aload_n dX6_note_20 rfl ?_
        refine wp_getQ fX6_7 tA_235 rfl hM.f0 (by decide) (Nat.le_of_ble_eq_true rfl) dX6_note_21 ?_
        refine wp_iload_n dX6_note_24 rfl ?_
        refine wp_iconst (v := 1) dX6_note_25 (by decide) ?_
        refine wp_iadd dX6_note_26 ?_
        refine wp_iadn (i := ((122 + 62 * g) + 1)) (ix_add rfl rfl) tA_236 (Nat.le_of_ble_eq_true rfl) (by rw [lA_236]; omega) (Nat.le_of_ble_eq_true rfl) dX6_note_27 ((congrFun (up_s _ _ _) _).trans (hm)) ?_
        refine wp_bipush (v := 60) dX6_note_28 (by decide) ?_
        refine wp_icN_ne (a := m) (b := 60) (tgt := 81) dX6_note_30 (by decide) rfl rfl (by omega) (by omega) (fun h30 => ?_) (fun h30 => ?_)
        · refine wp_drop [some (.ref 235), some (.int (nI g)), some (.int (nI (122 + 62 * g))), none] (by repeat constructor) ?_
          refine tail c m ro (by omega) (by omega) (by omega) h40 hm hc ?_
          rw [nt1, if_neg (by rw [hm]; exact fun q => h30 ((nI_eq (by omega) (by omega)).mp q)), hm, nI_clamp (by omega), hV, nI_1]
        · refine wp_iconst (v := 1) dX6_note_33 (by decide) ?_
          refine wp_istore_n (L' := [some (.ref 235), some (.int (nI g)), some (.int (nI (122 + 62 * g))), some (.int _)]) dX6_note_34 (by decide) rfl ?_
          have loop2 : ∀ (f2 i : Nat) (r2 : Nat → Int32), r2 = ntS ro g i → 60 - i < f2 → 1 ≤ i → i ≤ 60 → WP γ l mX6_note 1 243 243 35 [some (.ref 235), some (.int (nI g)), some (.int (nI (122 + 62 * g))), some (.int (nI i))] [] 243 (up M 236 r2) R K := by
            intro f2
            induction f2 with
            | zero => intro i r2 _ h; omega
            | succ f2 ih2 =>
              intro i r2 hr2 hf2 h1i hi
              have hm60 : ro (122 + 62 * g + 1) = 60 := by rw [hm, h30]; rfl
              have ra : ∀ j, j < 124 + 62 * g → r2 j = ro j := fun j hj => by rw [hr2, ntS, if_neg (by omega)]
              refine wp_iload_n dX6_note_35 rfl ?_
              refine wp_bipush (v := 60) dX6_note_36 (by decide) ?_
              refine wp_icN_ge (a := i) (b := 60) (tgt := 69) dX6_note_38 (by decide) rfl rfl (by omega) (by omega) (fun h38 => ?_) (fun h38 => ?_)
              · refine wp_aload_n dX6_note_69 rfl ?_
                refine wp_getQ fX6_7 tA_235 rfl hM.f0 (by decide) (Nat.le_of_ble_eq_true rfl) dX6_note_70 ?_
                refine wp_iload_n dX6_note_73 rfl ?_
                refine wp_iconst (v := 1) dX6_note_74 (by decide) ?_
                refine wp_iadd dX6_note_75 ?_
                refine wp_dup2 dX6_note_76 rfl rfl ?_
                refine wp_iadn (i := ((122 + 62 * g) + 1)) (ix_add rfl rfl) tA_236 (Nat.le_of_ble_eq_true rfl) (by rw [lA_236]; omega) (Nat.le_of_ble_eq_true rfl) dX6_note_77 ((congrFun (up_s _ _ _) _).trans ((ra _ (by omega)).trans hm60)) ?_
                refine wp_iconst (v := 1) dX6_note_78 (by decide) ?_
                refine wp_isub dX6_note_79 ?_
                refine wp_top (ix_sub (a := 60) (b := 1) rfl rfl (by omega)) ?_
                refine wp_iast (i := ((122 + 62 * g) + 1)) (ix_add rfl rfl) tA_236 (Nat.le_of_ble_eq_true rfl) (by rw [lA_236]; omega) (Nat.le_of_ble_eq_true rfl) dX6_note_80 ?_
                refine wp_mem (u2_up _ _ _ _ _) ?_
                refine wp_drop [some (.ref 235), some (.int (nI g)), some (.int (nI (122 + 62 * g))), none] (by repeat constructor) ?_
                refine tail c 59 _ (by omega) (by omega) (by omega) h40 (up_s _ _ _) ((up_n _ _ (by omega)).trans ((ra _ (by omega)).trans hc)) ?_
                rw [nt1, if_pos hm60, hV, hr2, show i = 60 by omega, up_n _ _ (show 6 + c ≠ 122 + 62 * g + 1 by omega), ntS, if_neg (by omega)]
                rfl
              · refine wp_aload_n dX6_note_41 rfl ?_
                refine wp_getQ fX6_7 tA_235 rfl hM.f0 (by decide) (Nat.le_of_ble_eq_true rfl) dX6_note_42 ?_
                refine wp_iload_n dX6_note_45 rfl ?_
                refine wp_iconst (v := 2) dX6_note_46 (by decide) ?_
                refine wp_iadd dX6_note_47 ?_
                refine wp_iload_n dX6_note_48 rfl ?_
                refine wp_iadd dX6_note_49 ?_
                refine wp_iconst (v := 1) dX6_note_50 (by decide) ?_
                refine wp_isub dX6_note_51 ?_
                refine wp_aload_n dX6_note_52 rfl ?_
                refine wp_getQ fX6_7 tA_235 rfl hM.f0 (by decide) (Nat.le_of_ble_eq_true rfl) dX6_note_53 ?_
                refine wp_iload_n dX6_note_56 rfl ?_
                refine wp_iconst (v := 2) dX6_note_57 (by decide) ?_
                refine wp_iadd dX6_note_58 ?_
                refine wp_iload_n dX6_note_59 rfl ?_
                refine wp_iadd dX6_note_60 ?_
                refine wp_iadn (i := (((122 + 62 * g) + 2) + i)) (ix_add (ix_add rfl rfl) rfl) tA_236 (Nat.le_of_ble_eq_true rfl) (by rw [lA_236]; omega) (Nat.le_of_ble_eq_true rfl) dX6_note_61 (congrFun (up_s _ _ _) _) ?_
                refine wp_iast (i := ((((122 + 62 * g) + 2) + i) - 1)) (ix_sub (a := (((122 + 62 * g) + 2) + i)) (b := 1) (ix_add (ix_add rfl rfl) rfl) rfl (by omega)) tA_236 (Nat.le_of_ble_eq_true rfl) (by rw [lA_236]; omega) (Nat.le_of_ble_eq_true rfl) dX6_note_62 ?_
                refine wp_mem (u2_up _ _ _ _ _) ?_
                refine wp_iinc (v := nI (i + 1)) (L' := [some (.ref 235), some (.int (nI g)), some (.int (nI (122 + 62 * g))), some (.int (nI (i + 1)))]) dX6_note_63 (by decide) rfl (inc_1 _) rfl ?_
                refine wp_goto (tgt := 35) dX6_note_66 (by decide) ?_
                refine ih2 (i + 1) _ ?_ (by omega) (by omega) (by omega)
                rw [← ntS_s (by omega), ← hr2, show 122 + 62 * g + 2 + i - 1 = 123 + 62 * g + i by omega, show 122 + 62 * g + 2 + i = 124 + 62 * g + i by omega]
          exact loop2 60 1 _ (ntS_0 ro g).symm (by omega) (by omega) (by omega)
  refine wp_iconst (v := 0) dX6_note_0 (by decide) ?_
  refine wp_istore_n (L' := [some (.ref 235), some (.int _), none, none]) dX6_note_1 (by decide) rfl ?_
  refine wp_mem (M' := up M 236 sg) (by rw [← hs, up_eta]) ?_
  exact loop (ng + 1) 0 _ rfl (by omega) (by omega)

