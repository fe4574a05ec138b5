/-! THE LAW: the class against its tank, cell by cell -/
theorem ofpR_0 (sg : Nat → Int32) (k : Nat) : ofpR sg k 0 = sg (86 + 6 * k + 0) := by rw [ofpR, if_pos rfl]
theorem ofpR_1 (sg : Nat → Int32) (k : Nat) : ofpR sg k 1 = sg (86 + 6 * k + 1) := by rw [ofpR, if_neg (by decide), if_pos rfl]
theorem ofpR_2 (sg : Nat → Int32) (k : Nat) : ofpR sg k 2 = sg (86 + 6 * k + 2) + 1000 := by rw [ofpR, if_neg (by decide), if_neg (by decide), if_pos rfl]
theorem ofpR_3 (sg : Nat → Int32) (k : Nat) : ofpR sg k 3 = sg (86 + 6 * k + 3) := by rw [ofpR, if_neg (by decide), if_neg (by decide), if_neg (by decide), if_pos rfl]
theorem ofpR_4 (sg : Nat → Int32) (k : Nat) : ofpR sg k 4 = sg (86 + 6 * k + 4) := by rw [ofpR, if_neg (by decide), if_neg (by decide), if_neg (by decide), if_neg (by decide), if_pos rfl]
theorem ofpR_5 (sg : Nat → Int32) (k : Nat) : ofpR sg k 5 = sg (86 + 6 * k + 5) := by rw [ofpR, if_neg (by decide), if_neg (by decide), if_neg (by decide), if_neg (by decide), if_neg (by decide), if_pos rfl]
theorem ofpR_6 (sg : Nat → Int32) (k : Nat) : ofpR sg k 6 = pushS sg k + 1000 := by rw [ofpR, if_neg (by decide), if_neg (by decide), if_neg (by decide), if_neg (by decide), if_neg (by decide), if_neg (by decide), if_pos rfl]
set_option maxRecDepth 100000 in
set_option maxHeartbeats 4000000 in
theorem sm_346 {γ : Gm} {l : Launch} {M : Mm} {R : Rm} {K : KT} {x : Int32} {sg tx F : Nat → Int32} {rc pl : Nat} {hs S : Nat → Nat → Int32} {v9 u11 u12 u13 u14 : Int32} {z15 z17 z19 w21 w23 : Int64} {c : Nat} {t26 t27 t28 t29 t30 : Option Value} (hc0 : IC M R sg rc hs F S tx pl) (hl : LT M 234 238 (nP sg) sg) (h40 : c < 40) (e9 : v9 = stpN sg (cq (M 238) c)) (e21 : w21 = plcM sg (nP sg) 3 c) (e23 : w23 = plcM sg (nP sg) 4 c) (n11 : u11 = sumN sg (c + 1)) (n12 : u12 = swN sg (c + 1)) (n13 : u13 = grN sg (c + 1)) (n14 : u14 = lsN sg (c + 1)) (n15 : z15 = plcM sg (nP sg) 0 (c + 1)) (n17 : z17 = plcM sg (nP sg) 1 (c + 1)) (n19 : z19 = plcM sg (nP sg) 2 (c + 1)) (next : ∀ (u9 u11 u12 u13 u14 : Int32) (z15 z17 z19 z21 z23 : Int64) (p10 : Nat) (t26 t27 t28 t29 t30 : Option Value), u9 = stpN sg (cq (M 238) (c + 1)) → u11 = sumN sg (c + 1) → u12 = swN sg (c + 1) → u13 = grN sg (c + 1) → u14 = lsN sg (c + 1) → z15 = plcM sg (nP sg) 0 (c + 1) → z17 = plcM sg (nP sg) 1 (c + 1) → z19 = plcM sg (nP sg) 2 (c + 1) → z21 = plcM sg (nP sg) 3 (c + 1) → z23 = plcM sg (nP sg) 4 (c + 1) → p10 = cq (M 238) (c + 1) → WP γ l mL_same 7 247 247 37 [some (.ref 8), some (.int x), some (.ref 235), some (.ref 236), some (.ref 237), some (.ref 238), some (.ref 239), some (.ref 240), some (.ref 241), some (.int u9), some (.int (nI p10)), some (.int u11), some (.int u12), some (.int u13), some (.int u14), some (.long z15), none, some (.long z17), none, some (.long z19), none, some (.long z21), none, some (.long z23), none, some (.int (nI (c + 1))), t26, t27, t28, t29, t30] [] 247 M R K)  : WP γ l mL_same 7 247 247 346 [some (.ref 8), some (.int x), some (.ref 235), some (.ref 236), some (.ref 237), some (.ref 238), some (.ref 239), some (.ref 240), some (.ref 241), some (.int v9), some (.int (nI (cq (M 238) c))), some (.int u11), some (.int u12), some (.int u13), some (.int u14), some (.long z15), none, some (.long z17), none, some (.long z19), none, some (.long w21), none, some (.long w23), none, some (.int (nI c)), t26, t27, t28, t29, t30] [] 247 M R K := by
  have h6 := hc0.ok.p6
  have h36 := hl.pl.2.2.1
  have h36 : cnt (M 238) 36 = nP sg := h36
  refine wp_drop [some (.ref 8), some (.int x), some (.ref 235), some (.ref 236), some (.ref 237), some (.ref 238), some (.ref 239), some (.ref 240), some (.ref 241), some (.int v9), some (.int (nI (cq (M 238) c))), some (.int u11), some (.int u12), some (.int u13), some (.int u14), some (.long z15), none, some (.long z17), none, some (.long z19), none, some (.long w21), none, some (.long w23), none, some (.int (nI c)), none, none, none, none, none] (by simp [leL]) ?_
  by_cases hc36 : c < 36
  · rcases hl.pl.at hc36 with hz | ⟨k, hk, hp⟩
    · have rn := rk_no hl.pl h40 (fun _ => hz)
      have eq : cq (M 238) (c + 1) = cq (M 238) c := by rw [cq_le (by omega), cq_le (by omega), cnt_z hz]
      refine wp_iload dL_same_346 rfl ?_
      refine wp_bipush (v := 36) dL_same_348 (by decide) ?_
      refine wp_icN_ge (a := c) (b := 36) (tgt := 363) dL_same_350 (by decide) rfl rfl (by omega) (by omega) (fun h350 => absurd h350 (by omega)) (fun h350 => ?_)
      refine wp_aload dL_same_353 rfl ?_
      refine wp_iload dL_same_355 rfl ?_
      refine wp_iadn (i := c) rfl tA_238 (Nat.le_of_ble_eq_true rfl) (by rw [lA_238]; omega) (Nat.le_of_ble_eq_true rfl) dL_same_357 (hz) ?_
      refine wp_iconst (v := 1) dL_same_358 (by decide) ?_
      refine wp_isub dL_same_359 ?_
      refine wp_goto (tgt := 364) dL_same_360 (by decide) ?_
      refine wp_istore (L' := [some (.ref 8), some (.int x), some (.ref 235), some (.ref 236), some (.ref 237), some (.ref 238), some (.ref 239), some (.ref 240), some (.ref 241), some (.int v9), some (.int (nI (cq (M 238) c))), some (.int u11), some (.int u12), some (.int u13), some (.int u14), some (.long _), none, some (.long _), none, some (.long _), none, some (.long _), none, some (.long _), none, some (.int (nI c)), none, none, none, some (.int _), none]) dL_same_364 (by decide) rfl ?_
      refine wp_iload dL_same_366 rfl ?_
      refine wp_if_ge (tgt := 374) dL_same_368 (by decide) (fun h368 => absurd h368 (by decide)) (fun h368 => ?_)
      refine wp_goto (tgt := 565) dL_same_371 (by decide) ?_
      refine wp_iinc (v := nI (c + 1)) (L' := [some (.ref 8), some (.int x), some (.ref 235), some (.ref 236), some (.ref 237), some (.ref 238), some (.ref 239), some (.ref 240), some (.ref 241), some (.int v9), some (.int (nI (cq (M 238) c))), some (.int u11), some (.int u12), some (.int u13), some (.int u14), some (.long _), none, some (.long _), none, some (.long _), none, some (.long _), none, some (.long _), none, some (.int (nI (c + 1))), none, none, none, some (.int _), none]) dL_same_565 (by decide) rfl (inc_1 _) rfl ?_
      refine wp_goto (tgt := 37) dL_same_568 (by decide) ?_
      exact next _ _ _ _ _ _ _ _ _ _ _ _ _ _ _ _ (by rw [eq]; exact e9) n11 n12 n13 n14 n15 n17 n19 (by rw [e21, plcM_z (by rw [plcV, if_neg (by decide), if_neg (by decide), if_neg (by decide), if_pos rfl, if_pos rn]), or_z]) (by rw [e23, plcM_z (by rw [plcV, if_neg (by decide), if_neg (by decide), if_neg (by decide), if_neg (by decide), if_pos rn]), or_z]) eq.symm
    · have n0 : ¬ M 238 c = 0 := by rw [hp]; exact nI_s0 (by omega)
      obtain ⟨g1, g2⟩ := hl.pl.2.2.2 c k hc36 hk hp
      have hlt := hl.pl.lt hc36 n0
      have rn := rk_at hl.pl h6 hc36 n0
      obtain ⟨r, hr⟩ : ∃ r, r = cnt (M 238) c := ⟨_, rfl⟩
      have eq0 : cq (M 238) c = r := by rw [cq_le (by omega), hr]
      have eq : cq (M 238) (c + 1) = r + 1 := by rw [cq_le (by omega), cnt_n n0, hr]
      rw [← hr] at g1 g2 hlt rn
      rw [eq0] at e9 ⊢
      obtain ⟨-, -, -, ⟨p, hpe1, hpe2, hpv⟩, -, hgo⟩ := hc0.ok.1.2.2.1 r hlt
      have f0 : M 239 (5 * k) = sg (86 + 6 * r + 1) := (g2 0 (by omega)).symm
      have f1 : M 239 (5 * k + 1) = sg (86 + 6 * r + 2) := (g2 1 (by omega)).symm
      have f2 : M 239 (5 * k + 2) = sg (86 + 6 * r + 3) := (g2 2 (by omega)).symm
      have f3 : M 239 (5 * k + 3) = sg (86 + 6 * r + 4) := (g2 3 (by omega)).symm
      have f4 : M 239 (5 * k + 4) = sg (86 + 6 * r + 5) := (g2 4 (by omega)).symm
      have epu : pushV (sg (86 + 6 * r + 1)) (sg (86 + 6 * r + 2)) (nI p) (remI (sg 3 + sg (86 + 6 * r + 4)) (nI p)) = pushS sg r := by rw [pushS, hpv]
      have v3 : ¬ plcV sg (nP sg) c 3 = 0 := by rw [plcV, if_neg (by decide), if_neg (by decide), if_neg (by decide), if_pos rfl, if_neg (by rw [rn]; exact nI_m6 (by omega))]; decide
      have v4 : plcV sg (nP sg) c 4 = if sg (86 + 6 * r + 5) = 0 then 1 else 0 := by rw [plcV, if_neg (by decide), if_neg (by decide), if_neg (by decide), if_neg (by decide), if_neg (by rw [rn]; exact nI_m6 (by omega)), rn, nI_clamp (by omega)]
      have s408 : ∀ (z21 z23 : Int64), z21 = plcM sg (nP sg) 3 (c + 1) → z23 = plcM sg (nP sg) 4 (c + 1) → WP γ l mL_same 7 247 247 408 [some (.ref 8), some (.int x), some (.ref 235), some (.ref 236), some (.ref 237), some (.ref 238), some (.ref 239), some (.ref 240), some (.ref 241), some (.int v9), some (.int (nI r)), some (.int u11), some (.int u12), some (.int u13), some (.int u14), some (.long z15), none, some (.long z17), none, some (.long z19), none, some (.long z21), none, some (.long z23), none, some (.int (nI c)), none, none, none, some (.int (nI k)), none] [] 247 M R K := by
        intro z21 z23 n21 n23
        refine wp_iload dL_same_408 rfl ?_
        refine wp_iconst (v := 1) dL_same_410 (by decide) ?_
        refine wp_aload dL_same_411 rfl ?_
        refine wp_iconst (v := 5) dL_same_413 (by decide) ?_
        refine wp_iload dL_same_414 rfl ?_
        refine wp_imul dL_same_416 ?_
        refine wp_iconst (v := 4) dL_same_417 (by decide) ?_
        refine wp_iadd dL_same_418 ?_
        refine wp_iadn (i := ((5 * k) + 4)) (ix_add (ix_mul rfl rfl) rfl) tA_239 (Nat.le_of_ble_eq_true rfl) (by rw [lA_239]; omega) (Nat.le_of_ble_eq_true rfl) dL_same_419 (f4) ?_
        refine wp_isub dL_same_420 ?_
        refine wp_iadd dL_same_421 ?_
        refine wp_istore (L' := [some (.ref 8), some (.int x), some (.ref 235), some (.ref 236), some (.ref 237), some (.ref 238), some (.ref 239), some (.ref 240), some (.ref 241), some (.int _), some (.int (nI r)), some (.int u11), some (.int u12), some (.int u13), some (.int u14), some (.long _), none, some (.long _), none, some (.long _), none, some (.long _), none, some (.long _), none, some (.int (nI c)), none, none, none, some (.int (nI k)), none]) dL_same_422 (by decide) rfl ?_
        refine wp_iload dL_same_424 rfl ?_
        refine wp_iinc (v := nI (r + 1)) (L' := [some (.ref 8), some (.int x), some (.ref 235), some (.ref 236), some (.ref 237), some (.ref 238), some (.ref 239), some (.ref 240), some (.ref 241), some (.int _), some (.int (nI (r + 1))), some (.int u11), some (.int u12), some (.int u13), some (.int u14), some (.long _), none, some (.long _), none, some (.long _), none, some (.long _), none, some (.long _), none, some (.int (nI c)), none, none, none, some (.int (nI k)), none]) dL_same_426 (by decide) rfl (inc_1 _) rfl ?_
        refine wp_istore (L' := [some (.ref 8), some (.int x), some (.ref 235), some (.ref 236), some (.ref 237), some (.ref 238), some (.ref 239), some (.ref 240), some (.ref 241), some (.int _), some (.int (nI (r + 1))), some (.int u11), some (.int u12), some (.int u13), some (.int u14), some (.long _), none, some (.long _), none, some (.long _), none, some (.long _), none, some (.long _), none, some (.int (nI c)), none, none, none, some (.int (nI k)), some (.int (nI r))]) dL_same_429 (by decide) rfl ?_
        refine wp_aload_n dL_same_431 rfl ?_
        refine wp_iload dL_same_432 rfl ?_
        refine wp_iconst (v := 0) dL_same_434 (by decide) ?_
        refine wp_cV2 (z := mX5_ofPaddle) (n' := 247) kL_29 dL_same_435 (Nat.le_of_ble_eq_true rfl) (Nat.le_of_ble_eq_true rfl) tA_8 (Nat.le_of_ble_eq_true rfl) (Nat.le_of_ble_eq_true rfl) (Nat.le_refl _) (Nat.le_refl _) (s_ofp (k := r) hc0 hlt (wp_af ?_))
        refine wp_top (z := nI c) ((ofpR_0 sg r).trans g1) ?_
        refine wp_iload dL_same_438 rfl ?_
        refine wp_icmp_ne (tgt := 563) dL_same_440 (by decide) (fun h440 => absurd rfl h440) (fun h440 => ?_)
        refine wp_aload_n dL_same_443 rfl ?_
        refine wp_iload dL_same_444 rfl ?_
        refine wp_iconst (v := 1) dL_same_446 (by decide) ?_
        refine wp_cV2 (z := mX5_ofPaddle) (n' := 247) kL_29 dL_same_447 (Nat.le_of_ble_eq_true rfl) (Nat.le_of_ble_eq_true rfl) tA_8 (Nat.le_of_ble_eq_true rfl) (Nat.le_of_ble_eq_true rfl) (Nat.le_refl _) (Nat.le_refl _) (s_ofp (k := r) hc0 hlt (wp_af ?_))
        refine wp_top (z := sg (86 + 6 * r + 1)) (ofpR_1 sg r) ?_
        refine wp_aload dL_same_450 rfl ?_
        refine wp_iconst (v := 5) dL_same_452 (by decide) ?_
        refine wp_iload dL_same_453 rfl ?_
        refine wp_imul dL_same_455 ?_
        refine wp_iadn (i := (5 * k)) (ix_mul rfl rfl) tA_239 (Nat.le_of_ble_eq_true rfl) (by rw [lA_239]; omega) (Nat.le_of_ble_eq_true rfl) dL_same_456 (f0) ?_
        refine wp_icmp_ne (tgt := 563) dL_same_457 (by decide) (fun h457 => absurd rfl h457) (fun h457 => ?_)
        refine wp_aload_n dL_same_460 rfl ?_
        refine wp_iload dL_same_461 rfl ?_
        refine wp_iconst (v := 2) dL_same_463 (by decide) ?_
        refine wp_cV2 (z := mX5_ofPaddle) (n' := 247) kL_29 dL_same_464 (Nat.le_of_ble_eq_true rfl) (Nat.le_of_ble_eq_true rfl) tA_8 (Nat.le_of_ble_eq_true rfl) (Nat.le_of_ble_eq_true rfl) (Nat.le_refl _) (Nat.le_refl _) (s_ofp (k := r) hc0 hlt (wp_af ?_))
        refine wp_top (z := sg (86 + 6 * r + 2) + 1000) (ofpR_2 sg r) ?_
        refine wp_aload dL_same_467 rfl ?_
        refine wp_iconst (v := 5) dL_same_469 (by decide) ?_
        refine wp_iload dL_same_470 rfl ?_
        refine wp_imul dL_same_472 ?_
        refine wp_iconst (v := 1) dL_same_473 (by decide) ?_
        refine wp_iadd dL_same_474 ?_
        refine wp_iadn (i := ((5 * k) + 1)) (ix_add (ix_mul rfl rfl) rfl) tA_239 (Nat.le_of_ble_eq_true rfl) (by rw [lA_239]; omega) (Nat.le_of_ble_eq_true rfl) dL_same_475 (f1) ?_
        refine wp_sipush (v := 1000) dL_same_476 (by decide) ?_
        refine wp_iadd dL_same_479 ?_
        refine wp_icmp_ne (tgt := 563) dL_same_480 (by decide) (fun h480 => absurd rfl h480) (fun h480 => ?_)
        refine wp_aload_n dL_same_483 rfl ?_
        refine wp_iload dL_same_484 rfl ?_
        refine wp_iconst (v := 3) dL_same_486 (by decide) ?_
        refine wp_cV2 (z := mX5_ofPaddle) (n' := 247) kL_29 dL_same_487 (Nat.le_of_ble_eq_true rfl) (Nat.le_of_ble_eq_true rfl) tA_8 (Nat.le_of_ble_eq_true rfl) (Nat.le_of_ble_eq_true rfl) (Nat.le_refl _) (Nat.le_refl _) (s_ofp (k := r) hc0 hlt (wp_af ?_))
        refine wp_top (z := sg (86 + 6 * r + 3)) (ofpR_3 sg r) ?_
        refine wp_aload dL_same_490 rfl ?_
        refine wp_iconst (v := 5) dL_same_492 (by decide) ?_
        refine wp_iload dL_same_493 rfl ?_
        refine wp_imul dL_same_495 ?_
        refine wp_iconst (v := 2) dL_same_496 (by decide) ?_
        refine wp_iadd dL_same_497 ?_
        refine wp_iadn (i := ((5 * k) + 2)) (ix_add (ix_mul rfl rfl) rfl) tA_239 (Nat.le_of_ble_eq_true rfl) (by rw [lA_239]; omega) (Nat.le_of_ble_eq_true rfl) dL_same_498 (f2) ?_
        refine wp_icmp_ne (tgt := 563) dL_same_499 (by decide) (fun h499 => absurd rfl h499) (fun h499 => ?_)
        refine wp_aload_n dL_same_502 rfl ?_
        refine wp_iload dL_same_503 rfl ?_
        refine wp_iconst (v := 4) dL_same_505 (by decide) ?_
        refine wp_cV2 (z := mX5_ofPaddle) (n' := 247) kL_29 dL_same_506 (Nat.le_of_ble_eq_true rfl) (Nat.le_of_ble_eq_true rfl) tA_8 (Nat.le_of_ble_eq_true rfl) (Nat.le_of_ble_eq_true rfl) (Nat.le_refl _) (Nat.le_refl _) (s_ofp (k := r) hc0 hlt (wp_af ?_))
        refine wp_top (z := sg (86 + 6 * r + 4)) (ofpR_4 sg r) ?_
        refine wp_aload dL_same_509 rfl ?_
        refine wp_iconst (v := 5) dL_same_511 (by decide) ?_
        refine wp_iload dL_same_512 rfl ?_
        refine wp_imul dL_same_514 ?_
        refine wp_iconst (v := 3) dL_same_515 (by decide) ?_
        refine wp_iadd dL_same_516 ?_
        refine wp_iadn (i := ((5 * k) + 3)) (ix_add (ix_mul rfl rfl) rfl) tA_239 (Nat.le_of_ble_eq_true rfl) (by rw [lA_239]; omega) (Nat.le_of_ble_eq_true rfl) dL_same_517 (f3) ?_
        refine wp_icmp_ne (tgt := 563) dL_same_518 (by decide) (fun h518 => absurd rfl h518) (fun h518 => ?_)
        refine wp_aload_n dL_same_521 rfl ?_
        refine wp_iload dL_same_522 rfl ?_
        refine wp_iconst (v := 5) dL_same_524 (by decide) ?_
        refine wp_cV2 (z := mX5_ofPaddle) (n' := 247) kL_29 dL_same_525 (Nat.le_of_ble_eq_true rfl) (Nat.le_of_ble_eq_true rfl) tA_8 (Nat.le_of_ble_eq_true rfl) (Nat.le_of_ble_eq_true rfl) (Nat.le_refl _) (Nat.le_refl _) (s_ofp (k := r) hc0 hlt (wp_af ?_))
        refine wp_top (z := sg (86 + 6 * r + 5)) (ofpR_5 sg r) ?_
        refine wp_aload dL_same_528 rfl ?_
        refine wp_iconst (v := 5) dL_same_530 (by decide) ?_
        refine wp_iload dL_same_531 rfl ?_
        refine wp_imul dL_same_533 ?_
        refine wp_iconst (v := 4) dL_same_534 (by decide) ?_
        refine wp_iadd dL_same_535 ?_
        refine wp_iadn (i := ((5 * k) + 4)) (ix_add (ix_mul rfl rfl) rfl) tA_239 (Nat.le_of_ble_eq_true rfl) (by rw [lA_239]; omega) (Nat.le_of_ble_eq_true rfl) dL_same_536 (f4) ?_
        refine wp_icmp_ne (tgt := 563) dL_same_537 (by decide) (fun h537 => absurd rfl h537) (fun h537 => ?_)
        refine wp_aload_n dL_same_540 rfl ?_
        refine wp_iload dL_same_541 rfl ?_
        refine wp_bipush (v := 6) dL_same_543 (by decide) ?_
        refine wp_cV2 (z := mX5_ofPaddle) (n' := 247) kL_29 dL_same_545 (Nat.le_of_ble_eq_true rfl) (Nat.le_of_ble_eq_true rfl) tA_8 (Nat.le_of_ble_eq_true rfl) (Nat.le_of_ble_eq_true rfl) (Nat.le_refl _) (Nat.le_refl _) (s_ofp (k := r) hc0 hlt (wp_af ?_))
        refine wp_top (z := pushS sg r + 1000) (ofpR_6 sg r) ?_
        refine wp_iload dL_same_548 rfl ?_
        refine wp_aload_n dL_same_550 rfl ?_
        refine wp_aload dL_same_551 rfl ?_
        refine wp_cS3 (z := mL_push) (n' := 247) kL_16 dL_same_553 (Nat.le_of_ble_eq_true rfl) (Nat.le_of_ble_eq_true rfl) (Nat.le_of_ble_eq_true rfl) (Nat.le_refl _) (Nat.le_refl _) (s_L_push ar_235 ar_239 hk f0 f1 (f2.trans hpv) f3 (hl.q (by decide)) hpe1 hpe2 (wp_af ?_))
        refine wp_top epu ?_
        refine wp_sipush (v := 1000) dL_same_556 (by decide) ?_
        refine wp_iadd dL_same_559 ?_
        refine wp_icmp_eq (tgt := 565) dL_same_560 (by decide) (fun h560 => ?_) (fun h560 => absurd rfl h560)
        refine wp_iinc (v := nI (c + 1)) (L' := [some (.ref 8), some (.int x), some (.ref 235), some (.ref 236), some (.ref 237), some (.ref 238), some (.ref 239), some (.ref 240), some (.ref 241), some (.int _), some (.int (nI (r + 1))), some (.int u11), some (.int u12), some (.int u13), some (.int u14), some (.long _), none, some (.long _), none, some (.long _), none, some (.long _), none, some (.long _), none, some (.int (nI (c + 1))), none, none, none, some (.int (nI k)), some (.int (nI r))]) dL_same_565 (by decide) rfl (inc_1 _) rfl ?_
        refine wp_goto (tgt := 37) dL_same_568 (by decide) ?_
        exact next _ _ _ _ _ _ _ _ _ _ (r + 1) _ _ _ _ _ (by rw [e9, eq]; rfl) n11 n12 n13 n14 n15 n17 n19 n21 n23 eq.symm
      refine wp_iload dL_same_346 rfl ?_
      refine wp_bipush (v := 36) dL_same_348 (by decide) ?_
      refine wp_icN_ge (a := c) (b := 36) (tgt := 363) dL_same_350 (by decide) rfl rfl (by omega) (by omega) (fun h350 => absurd h350 (by omega)) (fun h350 => ?_)
      refine wp_aload dL_same_353 rfl ?_
      refine wp_iload dL_same_355 rfl ?_
      refine wp_iadn (i := c) (v := nI (k + 1)) rfl tA_238 (Nat.le_of_ble_eq_true rfl) (by rw [lA_238]; omega) (Nat.le_of_ble_eq_true rfl) dL_same_357 (hp) ?_
      refine wp_iconst (v := 1) dL_same_358 (by decide) ?_
      refine wp_isub dL_same_359 ?_
      refine wp_goto (tgt := 364) dL_same_360 (by decide) ?_
      refine wp_top (nI_pred k) ?_
      refine wp_istore (L' := [some (.ref 8), some (.int x), some (.ref 235), some (.ref 236), some (.ref 237), some (.ref 238), some (.ref 239), some (.ref 240), some (.ref 241), some (.int v9), some (.int (nI r)), some (.int u11), some (.int u12), some (.int u13), some (.int u14), some (.long _), none, some (.long _), none, some (.long _), none, some (.long _), none, some (.long _), none, some (.int (nI c)), none, none, none, some (.int (nI k)), none]) dL_same_364 (by decide) rfl ?_
      refine wp_iload dL_same_366 rfl ?_
      refine wp_ifN_ge (a := k) (tgt := 374) dL_same_368 (by decide) rfl (by omega) ?_
      refine wp_lload dL_same_374 rfl ?_
      refine wp_lconst (v := 1) dL_same_376 rfl ?_
      refine wp_iload dL_same_377 rfl ?_
      refine wp_lshl dL_same_379 ?_
      refine wp_lor dL_same_380 ?_
      refine wp_lstore (L' := [some (.ref 8), some (.int x), some (.ref 235), some (.ref 236), some (.ref 237), some (.ref 238), some (.ref 239), some (.ref 240), some (.ref 241), some (.int v9), some (.int (nI r)), some (.int u11), some (.int u12), some (.int u13), some (.int u14), some (.long _), none, some (.long _), none, some (.long _), none, some (.long _), none, some (.long _), none, some (.int (nI c)), none, none, none, some (.int (nI k)), none]) dL_same_381 (by decide) rfl ?_
      refine wp_lload dL_same_383 rfl ?_
      refine wp_aload dL_same_385 rfl ?_
      refine wp_iconst (v := 5) dL_same_387 (by decide) ?_
      refine wp_iload dL_same_388 rfl ?_
      refine wp_imul dL_same_390 ?_
      refine wp_iconst (v := 4) dL_same_391 (by decide) ?_
      refine wp_iadd dL_same_392 ?_
      refine wp_iadn (i := ((5 * k) + 4)) (ix_add (ix_mul rfl rfl) rfl) tA_239 (Nat.le_of_ble_eq_true rfl) (by rw [lA_239]; omega) (Nat.le_of_ble_eq_true rfl) dL_same_393 (f4) ?_
      refine wp_if_ne (tgt := 404) dL_same_394 (by decide) (fun h394 => ?_) (fun h394 => ?_)
      · refine wp_lconst (v := 0) dL_same_404 rfl ?_
        refine wp_lor dL_same_405 ?_
        refine wp_lstore (L' := [some (.ref 8), some (.int x), some (.ref 235), some (.ref 236), some (.ref 237), some (.ref 238), some (.ref 239), some (.ref 240), some (.ref 241), some (.int v9), some (.int (nI r)), some (.int u11), some (.int u12), some (.int u13), some (.int u14), some (.long _), none, some (.long _), none, some (.long _), none, some (.long _), none, some (.long _), none, some (.int (nI c)), none, none, none, some (.int (nI k)), none]) dL_same_406 (by decide) rfl ?_
        exact s408 _ _ (by rw [e21, plcM_n v3]) (by
          first
            | (rw [e23, plcM_z (by rw [v4, if_neg h394])])
            | (rw [e23, plcM_n (by rw [v4, if_pos h394]; decide)]))
      · refine wp_lconst (v := 1) dL_same_397 rfl ?_
        refine wp_iload dL_same_398 rfl ?_
        refine wp_lshl dL_same_400 ?_
        refine wp_goto (tgt := 405) dL_same_401 (by decide) ?_
        refine wp_lor dL_same_405 ?_
        refine wp_lstore (L' := [some (.ref 8), some (.int x), some (.ref 235), some (.ref 236), some (.ref 237), some (.ref 238), some (.ref 239), some (.ref 240), some (.ref 241), some (.int v9), some (.int (nI r)), some (.int u11), some (.int u12), some (.int u13), some (.int u14), some (.long _), none, some (.long _), none, some (.long _), none, some (.long _), none, some (.long _), none, some (.int (nI c)), none, none, none, some (.int (nI k)), none]) dL_same_406 (by decide) rfl ?_
        exact s408 _ _ (by rw [e21, plcM_n v3]) (by
          first
            | (rw [e23, plcM_z (by rw [v4, if_neg h394])])
            | (rw [e23, plcM_n (by rw [v4, if_pos h394]; decide)]))
  · have rn := rk_no hl.pl h40 (fun h => absurd h hc36)
    have eq : cq (M 238) (c + 1) = cq (M 238) c := by rw [cq_hi (by omega), cq_hi (by omega)]
    refine wp_iload dL_same_346 rfl ?_
    refine wp_bipush (v := 36) dL_same_348 (by decide) ?_
    refine wp_icN_ge (a := c) (b := 36) (tgt := 363) dL_same_350 (by decide) rfl rfl (by omega) (by omega) (fun h350 => ?_) (fun h350 => absurd h350 hc36)
    refine wp_iconst (v := (-1)) dL_same_363 (by decide) ?_
    refine wp_istore (L' := [some (.ref 8), some (.int x), some (.ref 235), some (.ref 236), some (.ref 237), some (.ref 238), some (.ref 239), some (.ref 240), some (.ref 241), some (.int v9), some (.int (nI (cq (M 238) c))), some (.int u11), some (.int u12), some (.int u13), some (.int u14), some (.long _), none, some (.long _), none, some (.long _), none, some (.long _), none, some (.long _), none, some (.int (nI c)), none, none, none, some (.int (-1)), none]) dL_same_364 (by decide) rfl ?_
    refine wp_iload dL_same_366 rfl ?_
    refine wp_if_ge (tgt := 374) dL_same_368 (by decide) (fun h368 => absurd h368 (by decide)) (fun h368 => ?_)
    refine wp_goto (tgt := 565) dL_same_371 (by decide) ?_
    refine wp_iinc (v := nI (c + 1)) (L' := [some (.ref 8), some (.int x), some (.ref 235), some (.ref 236), some (.ref 237), some (.ref 238), some (.ref 239), some (.ref 240), some (.ref 241), some (.int v9), some (.int (nI (cq (M 238) c))), some (.int u11), some (.int u12), some (.int u13), some (.int u14), some (.long _), none, some (.long _), none, some (.long _), none, some (.long _), none, some (.long _), none, some (.int (nI (c + 1))), none, none, none, some (.int (-1)), none]) dL_same_565 (by decide) rfl (inc_1 _) rfl ?_
    refine wp_goto (tgt := 37) dL_same_568 (by decide) ?_
    exact next _ _ _ _ _ _ _ _ _ _ _ _ _ _ _ _ (by rw [eq]; exact e9) n11 n12 n13 n14 n15 n17 n19 (by rw [e21, plcM_z (by rw [plcV, if_neg (by decide), if_neg (by decide), if_neg (by decide), if_pos rfl, if_pos rn]), or_z]) (by rw [e23, plcM_z (by rw [plcV, if_neg (by decide), if_neg (by decide), if_neg (by decide), if_neg (by decide), if_pos rn]), or_z]) eq.symm

set_option maxRecDepth 100000 in
set_option maxHeartbeats 4000000 in
theorem sm_37 {γ : Gm} {l : Launch} {M : Mm} {R : Rm} {K : KT} {x : Int32} {sg tx F : Nat → Int32} {rc pl : Nat} {hs S : Nat → Nat → Int32} {v9 v11 v12 v13 v14 : Int32} {w15 w17 w19 w21 w23 : Int64} {c : Nat} {t26 t27 t28 t29 t30 : Option Value} (hc : IC M R sg rc hs F S tx pl) (hl : LT M 234 238 (nP sg) sg) (h40 : c < 40) (e9 : v9 = stpN sg (cq (M 238) c)) (e11 : v11 = sumN sg c) (e12 : v12 = swN sg c) (e13 : v13 = grN sg c) (e14 : v14 = lsN sg c) (e15 : w15 = plcM sg (nP sg) 0 c) (e17 : w17 = plcM sg (nP sg) 1 c) (e19 : w19 = plcM sg (nP sg) 2 c) (e21 : w21 = plcM sg (nP sg) 3 c) (e23 : w23 = plcM sg (nP sg) 4 c) (next : ∀ (u9 u11 u12 u13 u14 : Int32) (z15 z17 z19 z21 z23 : Int64) (p10 : Nat) (t26 t27 t28 t29 t30 : Option Value), u9 = stpN sg (cq (M 238) (c + 1)) → u11 = sumN sg (c + 1) → u12 = swN sg (c + 1) → u13 = grN sg (c + 1) → u14 = lsN sg (c + 1) → z15 = plcM sg (nP sg) 0 (c + 1) → z17 = plcM sg (nP sg) 1 (c + 1) → z19 = plcM sg (nP sg) 2 (c + 1) → z21 = plcM sg (nP sg) 3 (c + 1) → z23 = plcM sg (nP sg) 4 (c + 1) → p10 = cq (M 238) (c + 1) → WP γ l mL_same 7 247 247 37 [some (.ref 8), some (.int x), some (.ref 235), some (.ref 236), some (.ref 237), some (.ref 238), some (.ref 239), some (.ref 240), some (.ref 241), some (.int u9), some (.int (nI p10)), some (.int u11), some (.int u12), some (.int u13), some (.int u14), some (.long z15), none, some (.long z17), none, some (.long z19), none, some (.long z21), none, some (.long z23), none, some (.int (nI (c + 1))), t26, t27, t28, t29, t30] [] 247 M R K)  : WP γ l mL_same 7 247 247 37 [some (.ref 8), some (.int x), some (.ref 235), some (.ref 236), some (.ref 237), some (.ref 238), some (.ref 239), some (.ref 240), some (.ref 241), some (.int v9), some (.int (nI (cq (M 238) c))), some (.int v11), some (.int v12), some (.int v13), some (.int v14), some (.long w15), none, some (.long w17), none, some (.long w19), none, some (.long w21), none, some (.long w23), none, some (.int (nI c)), t26, t27, t28, t29, t30] [] 247 M R K := by
  have s320 : ∀ (u11 u12 u14 : Int32) (z15 z17 z19 : Int64) (t26 t27 t28 t29 t30 : Option Value), u11 = sumN sg (c + 1) → u12 = swN sg (c + 1) → u14 = lsN sg (c + 1) → z15 = plcM sg (nP sg) 0 (c + 1) → z17 = plcM sg (nP sg) 1 (c + 1) → z19 = plcM sg (nP sg) 2 (c + 1) → WP γ l mL_same 7 247 247 320 [some (.ref 8), some (.int x), some (.ref 235), some (.ref 236), some (.ref 237), some (.ref 238), some (.ref 239), some (.ref 240), some (.ref 241), some (.int v9), some (.int (nI (cq (M 238) c))), some (.int u11), some (.int u12), some (.int v13), some (.int u14), some (.long z15), none, some (.long z17), none, some (.long z19), none, some (.long w21), none, some (.long w23), none, some (.int (nI c)), t26, t27, t28, t29, t30] [] 247 M R K := by
    intro u11 u12 u14 z15 z17 z19 t26 t27 t28 t29 t30 n11 n12 n14 n15 n17 n19
    refine wp_drop [some (.ref 8), some (.int x), some (.ref 235), some (.ref 236), some (.ref 237), some (.ref 238), some (.ref 239), some (.ref 240), some (.ref 241), some (.int v9), some (.int (nI (cq (M 238) c))), some (.int u11), some (.int u12), some (.int v13), some (.int u14), some (.long z15), none, some (.long z17), none, some (.long z19), none, some (.long w21), none, some (.long w23), none, some (.int (nI c)), none, none, none, none, none] (by simp [leL]) ?_
    refine wp_aload_n dL_same_320 rfl ?_
    refine wp_iload dL_same_321 rfl ?_
    refine wp_iadn (i := c) rfl tA_236 (Nat.le_of_ble_eq_true rfl) (by rw [lA_236]; omega) (Nat.le_of_ble_eq_true rfl) dL_same_323 (hl.l (by omega)) ?_
    refine wp_cS1 (z := mL_abs) (n' := 247) kL_10 dL_same_324 (Nat.le_of_ble_eq_true rfl) (Nat.le_of_ble_eq_true rfl) (Nat.le_of_ble_eq_true rfl) (Nat.le_refl _) (Nat.le_refl _) (s_L_abs (wp_af ?_))
    refine wp_iload dL_same_327 rfl ?_
    refine wp_icmp_le (tgt := 342) dL_same_329 (by decide) (fun h329 => ?_) (fun h329 => ?_)
    · refine wp_iload dL_same_342 rfl ?_
      refine wp_istore (L' := [some (.ref 8), some (.int x), some (.ref 235), some (.ref 236), some (.ref 237), some (.ref 238), some (.ref 239), some (.ref 240), some (.ref 241), some (.int v9), some (.int (nI (cq (M 238) c))), some (.int u11), some (.int u12), some (.int v13), some (.int u14), some (.long _), none, some (.long _), none, some (.long _), none, some (.long _), none, some (.long _), none, some (.int (nI c)), none, none, none, none, none]) dL_same_344 (by decide) rfl ?_
      exact sm_346 hc hl h40 e9 e21 e23 n11 n12 (by
        rw [grN, ← e13]
        first
          | rw [if_neg (Int32.not_lt.mpr h329)]
          | rw [if_pos (Int32.not_le.mp h329)]) n14 n15 n17 n19 next
    · refine wp_aload_n dL_same_332 rfl ?_
      refine wp_iload dL_same_333 rfl ?_
      refine wp_iadn (i := c) rfl tA_236 (Nat.le_of_ble_eq_true rfl) (by rw [lA_236]; omega) (Nat.le_of_ble_eq_true rfl) dL_same_335 (hl.l (by omega)) ?_
      refine wp_cS1 (z := mL_abs) (n' := 247) kL_10 dL_same_336 (Nat.le_of_ble_eq_true rfl) (Nat.le_of_ble_eq_true rfl) (Nat.le_of_ble_eq_true rfl) (Nat.le_refl _) (Nat.le_refl _) (s_L_abs (wp_af ?_))
      refine wp_goto (tgt := 344) dL_same_339 (by decide) ?_
      refine wp_istore (L' := [some (.ref 8), some (.int x), some (.ref 235), some (.ref 236), some (.ref 237), some (.ref 238), some (.ref 239), some (.ref 240), some (.ref 241), some (.int v9), some (.int (nI (cq (M 238) c))), some (.int u11), some (.int u12), some (.int _), some (.int u14), some (.long _), none, some (.long _), none, some (.long _), none, some (.long _), none, some (.long _), none, some (.int (nI c)), none, none, none, none, none]) dL_same_344 (by decide) rfl ?_
      exact sm_346 hc hl h40 e9 e21 e23 n11 n12 (by
        rw [grN, ← e13]
        first
          | rw [if_neg (Int32.not_lt.mpr h329)]
          | rw [if_pos (Int32.not_le.mp h329)]) n14 n15 n17 n19 next
  have s290 : ∀ (u14 : Int32) (z15 z17 z19 : Int64) (t26 t27 t28 t29 t30 : Option Value), u14 = lsN sg (c + 1) → z15 = plcM sg (nP sg) 0 (c + 1) → z17 = plcM sg (nP sg) 1 (c + 1) → z19 = plcM sg (nP sg) 2 (c + 1) → WP γ l mL_same 7 247 247 290 [some (.ref 8), some (.int x), some (.ref 235), some (.ref 236), some (.ref 237), some (.ref 238), some (.ref 239), some (.ref 240), some (.ref 241), some (.int v9), some (.int (nI (cq (M 238) c))), some (.int v11), some (.int v12), some (.int v13), some (.int u14), some (.long z15), none, some (.long z17), none, some (.long z19), none, some (.long w21), none, some (.long w23), none, some (.int (nI c)), t26, t27, t28, t29, t30] [] 247 M R K := by
    intro u14 z15 z17 z19 t26 t27 t28 t29 t30 n14 n15 n17 n19
    refine wp_drop [some (.ref 8), some (.int x), some (.ref 235), some (.ref 236), some (.ref 237), some (.ref 238), some (.ref 239), some (.ref 240), some (.ref 241), some (.int v9), some (.int (nI (cq (M 238) c))), some (.int v11), some (.int v12), some (.int v13), some (.int u14), some (.long z15), none, some (.long z17), none, some (.long z19), none, some (.long w21), none, some (.long w23), none, some (.int (nI c)), none, none, none, none, none] (by simp [leL]) ?_
    refine wp_iload dL_same_290 rfl ?_
    refine wp_aload_n dL_same_292 rfl ?_
    refine wp_iload dL_same_293 rfl ?_
    refine wp_iadn (i := c) rfl tA_236 (Nat.le_of_ble_eq_true rfl) (by rw [lA_236]; omega) (Nat.le_of_ble_eq_true rfl) dL_same_295 (hl.l (by omega)) ?_
    refine wp_iadd dL_same_296 ?_
    refine wp_istore (L' := [some (.ref 8), some (.int x), some (.ref 235), some (.ref 236), some (.ref 237), some (.ref 238), some (.ref 239), some (.ref 240), some (.ref 241), some (.int v9), some (.int (nI (cq (M 238) c))), some (.int _), some (.int v12), some (.int v13), some (.int u14), some (.long _), none, some (.long _), none, some (.long _), none, some (.long _), none, some (.long _), none, some (.int (nI c)), none, none, none, none, none]) dL_same_297 (by decide) rfl ?_
    refine wp_iload dL_same_299 rfl ?_
    refine wp_aload_n dL_same_301 rfl ?_
    refine wp_iload dL_same_302 rfl ?_
    refine wp_iadn (i := c) rfl tA_236 (Nat.le_of_ble_eq_true rfl) (by rw [lA_236]; omega) (Nat.le_of_ble_eq_true rfl) dL_same_304 (hl.l (by omega)) ?_
    refine wp_cS1 (z := mL_abs) (n' := 247) kL_10 dL_same_305 (Nat.le_of_ble_eq_true rfl) (Nat.le_of_ble_eq_true rfl) (Nat.le_of_ble_eq_true rfl) (Nat.le_refl _) (Nat.le_refl _) (s_L_abs (wp_af ?_))
    refine wp_aload dL_same_308 rfl ?_
    refine wp_iload dL_same_310 rfl ?_
    refine wp_iadn (i := c) rfl tA_237 (Nat.le_of_ble_eq_true rfl) (by rw [lA_237]; omega) (Nat.le_of_ble_eq_true rfl) dL_same_312 (hl.s (by omega)) ?_
    refine wp_cS1 (z := mL_abs) (n' := 247) kL_10 dL_same_313 (Nat.le_of_ble_eq_true rfl) (Nat.le_of_ble_eq_true rfl) (Nat.le_of_ble_eq_true rfl) (Nat.le_refl _) (Nat.le_refl _) (s_L_abs (wp_af ?_))
    refine wp_iadd dL_same_316 ?_
    refine wp_iadd dL_same_317 ?_
    refine wp_istore (L' := [some (.ref 8), some (.int x), some (.ref 235), some (.ref 236), some (.ref 237), some (.ref 238), some (.ref 239), some (.ref 240), some (.ref 241), some (.int v9), some (.int (nI (cq (M 238) c))), some (.int _), some (.int _), some (.int v13), some (.int u14), some (.long _), none, some (.long _), none, some (.long _), none, some (.long _), none, some (.long _), none, some (.int (nI c)), none, none, none, none, none]) dL_same_318 (by decide) rfl ?_
    exact s320 _ _ _ _ _ _ _ _ _ _ _ (by rw [e11]; rfl) (by rw [e12]; rfl) n14 n15 n17 n19
  have s274 : ∀ (z15 z17 z19 : Int64) (t26 t27 t28 t29 t30 : Option Value), z15 = plcM sg (nP sg) 0 (c + 1) → z17 = plcM sg (nP sg) 1 (c + 1) → z19 = plcM sg (nP sg) 2 (c + 1) → WP γ l mL_same 7 247 247 274 [some (.ref 8), some (.int x), some (.ref 235), some (.ref 236), some (.ref 237), some (.ref 238), some (.ref 239), some (.ref 240), some (.ref 241), some (.int v9), some (.int (nI (cq (M 238) c))), some (.int v11), some (.int v12), some (.int v13), some (.int v14), some (.long z15), none, some (.long z17), none, some (.long z19), none, some (.long w21), none, some (.long w23), none, some (.int (nI c)), t26, t27, t28, t29, t30] [] 247 M R K := by
    intro z15 z17 z19 t26 t27 t28 t29 t30 n15 n17 n19
    refine wp_drop [some (.ref 8), some (.int x), some (.ref 235), some (.ref 236), some (.ref 237), some (.ref 238), some (.ref 239), some (.ref 240), some (.ref 241), some (.int v9), some (.int (nI (cq (M 238) c))), some (.int v11), some (.int v12), some (.int v13), some (.int v14), some (.long z15), none, some (.long z17), none, some (.long z19), none, some (.long w21), none, some (.long w23), none, some (.int (nI c)), none, none, none, none, none] (by simp [leL]) ?_
    refine wp_aload_n dL_same_274 rfl ?_
    refine wp_iload dL_same_275 rfl ?_
    refine wp_iadn (i := c) rfl tA_236 (Nat.le_of_ble_eq_true rfl) (by rw [lA_236]; omega) (Nat.le_of_ble_eq_true rfl) dL_same_277 (hl.l (by omega)) ?_
    refine wp_if_eq (tgt := 286) dL_same_278 (by decide) (fun h278 => ?_) (fun h278 => ?_)
    · refine wp_iload dL_same_286 rfl ?_
      refine wp_istore (L' := [some (.ref 8), some (.int x), some (.ref 235), some (.ref 236), some (.ref 237), some (.ref 238), some (.ref 239), some (.ref 240), some (.ref 241), some (.int v9), some (.int (nI (cq (M 238) c))), some (.int v11), some (.int v12), some (.int v13), some (.int v14), some (.long _), none, some (.long _), none, some (.long _), none, some (.long _), none, some (.long _), none, some (.int (nI c)), none, none, none, none, none]) dL_same_288 (by decide) rfl ?_
      exact s290 _ _ _ _ _ _ _ _ _ (by
        rw [lsN]
        first
          | (rw [if_pos h278]; exact e14)
          | rw [if_neg h278]) n15 n17 n19
    · refine wp_iload dL_same_281 rfl ?_
      refine wp_goto (tgt := 288) dL_same_283 (by decide) ?_
      refine wp_istore (L' := [some (.ref 8), some (.int x), some (.ref 235), some (.ref 236), some (.ref 237), some (.ref 238), some (.ref 239), some (.ref 240), some (.ref 241), some (.int v9), some (.int (nI (cq (M 238) c))), some (.int v11), some (.int v12), some (.int v13), some (.int (nI c)), some (.long _), none, some (.long _), none, some (.long _), none, some (.long _), none, some (.long _), none, some (.int (nI c)), none, none, none, none, none]) dL_same_288 (by decide) rfl ?_
      exact s290 _ _ _ _ _ _ _ _ _ (by
        rw [lsN]
        first
          | (rw [if_pos h278]; exact e14)
          | rw [if_neg h278]) n15 n17 n19
  have s254 : ∀ (z15 z17 : Int64) (t26 t27 t28 t29 t30 : Option Value), z15 = plcM sg (nP sg) 0 (c + 1) → z17 = plcM sg (nP sg) 1 (c + 1) → WP γ l mL_same 7 247 247 254 [some (.ref 8), some (.int x), some (.ref 235), some (.ref 236), some (.ref 237), some (.ref 238), some (.ref 239), some (.ref 240), some (.ref 241), some (.int v9), some (.int (nI (cq (M 238) c))), some (.int v11), some (.int v12), some (.int v13), some (.int v14), some (.long z15), none, some (.long z17), none, some (.long w19), none, some (.long w21), none, some (.long w23), none, some (.int (nI c)), t26, t27, t28, t29, t30] [] 247 M R K := by
    intro z15 z17 t26 t27 t28 t29 t30 n15 n17
    refine wp_drop [some (.ref 8), some (.int x), some (.ref 235), some (.ref 236), some (.ref 237), some (.ref 238), some (.ref 239), some (.ref 240), some (.ref 241), some (.int v9), some (.int (nI (cq (M 238) c))), some (.int v11), some (.int v12), some (.int v13), some (.int v14), some (.long z15), none, some (.long z17), none, some (.long w19), none, some (.long w21), none, some (.long w23), none, some (.int (nI c)), none, none, none, none, none] (by simp [leL]) ?_
    refine wp_lload dL_same_254 rfl ?_
    refine wp_aload_n dL_same_256 rfl ?_
    refine wp_iload dL_same_257 rfl ?_
    refine wp_iadn (i := c) rfl tA_236 (Nat.le_of_ble_eq_true rfl) (by rw [lA_236]; omega) (Nat.le_of_ble_eq_true rfl) dL_same_259 (hl.l (by omega)) ?_
    refine wp_if_eq (tgt := 270) dL_same_260 (by decide) (fun h260 => ?_) (fun h260 => ?_)
    · refine wp_lconst (v := 0) dL_same_270 rfl ?_
      refine wp_lor dL_same_271 ?_
      refine wp_lstore (L' := [some (.ref 8), some (.int x), some (.ref 235), some (.ref 236), some (.ref 237), some (.ref 238), some (.ref 239), some (.ref 240), some (.ref 241), some (.int v9), some (.int (nI (cq (M 238) c))), some (.int v11), some (.int v12), some (.int v13), some (.int v14), some (.long _), none, some (.long _), none, some (.long _), none, some (.long _), none, some (.long _), none, some (.int (nI c)), none, none, none, none, none]) dL_same_272 (by decide) rfl ?_
      exact s274 _ _ _ _ _ _ _ _ n15 n17 (by
        first
          | rw [e19, plcM_z (by rw [plcV, if_neg (by decide), if_neg (by decide), if_pos rfl, if_pos h260])]
          | rw [e19, plcM_n (by rw [plcV, if_neg (by decide), if_neg (by decide), if_pos rfl, if_neg h260]; decide)])
    · refine wp_lconst (v := 1) dL_same_263 rfl ?_
      refine wp_iload dL_same_264 rfl ?_
      refine wp_lshl dL_same_266 ?_
      refine wp_goto (tgt := 271) dL_same_267 (by decide) ?_
      refine wp_lor dL_same_271 ?_
      refine wp_lstore (L' := [some (.ref 8), some (.int x), some (.ref 235), some (.ref 236), some (.ref 237), some (.ref 238), some (.ref 239), some (.ref 240), some (.ref 241), some (.int v9), some (.int (nI (cq (M 238) c))), some (.int v11), some (.int v12), some (.int v13), some (.int v14), some (.long _), none, some (.long _), none, some (.long _), none, some (.long _), none, some (.long _), none, some (.int (nI c)), none, none, none, none, none]) dL_same_272 (by decide) rfl ?_
      exact s274 _ _ _ _ _ _ _ _ n15 n17 (by
        first
          | rw [e19, plcM_z (by rw [plcV, if_neg (by decide), if_neg (by decide), if_pos rfl, if_pos h260])]
          | rw [e19, plcM_n (by rw [plcV, if_neg (by decide), if_neg (by decide), if_pos rfl, if_neg h260]; decide)])
  have s236 : ∀ (z15 : Int64) (v26 v27 v28 : Int32) (t29 t30 : Option Value), z15 = plcM sg (nP sg) 0 (c + 1) → v28 = trough sg c → WP γ l mL_same 7 247 247 236 [some (.ref 8), some (.int x), some (.ref 235), some (.ref 236), some (.ref 237), some (.ref 238), some (.ref 239), some (.ref 240), some (.ref 241), some (.int v9), some (.int (nI (cq (M 238) c))), some (.int v11), some (.int v12), some (.int v13), some (.int v14), some (.long z15), none, some (.long w17), none, some (.long w19), none, some (.long w21), none, some (.long w23), none, some (.int (nI c)), some (.int v26), some (.int v27), some (.int v28), t29, t30] [] 247 M R K := by
    intro z15 v26 v27 v28 t29 t30 n15 e28
    refine wp_drop [some (.ref 8), some (.int x), some (.ref 235), some (.ref 236), some (.ref 237), some (.ref 238), some (.ref 239), some (.ref 240), some (.ref 241), some (.int v9), some (.int (nI (cq (M 238) c))), some (.int v11), some (.int v12), some (.int v13), some (.int v14), some (.long z15), none, some (.long w17), none, some (.long w19), none, some (.long w21), none, some (.long w23), none, some (.int (nI c)), some (.int v26), some (.int v27), some (.int v28), none, none] (by simp [leL]) ?_
    refine wp_lload dL_same_236 rfl ?_
    refine wp_iload dL_same_238 rfl ?_
    refine wp_if_eq (tgt := 250) dL_same_240 (by decide) (fun h240 => ?_) (fun h240 => ?_)
    · refine wp_lconst (v := 0) dL_same_250 rfl ?_
      refine wp_lor dL_same_251 ?_
      refine wp_lstore (L' := [some (.ref 8), some (.int x), some (.ref 235), some (.ref 236), some (.ref 237), some (.ref 238), some (.ref 239), some (.ref 240), some (.ref 241), some (.int v9), some (.int (nI (cq (M 238) c))), some (.int v11), some (.int v12), some (.int v13), some (.int v14), some (.long _), none, some (.long _), none, some (.long _), none, some (.long _), none, some (.long _), none, some (.int (nI c)), some (.int v26), some (.int v27), some (.int v28), none, none]) dL_same_252 (by decide) rfl ?_
      exact s254 _ _ _ _ _ _ _ n15 (by
        first
          | rw [e17, plcM_z (show plcV sg (nP sg) c 1 = 0 by rw [plcV, if_neg (by decide), if_pos rfl, ← e28]; exact h240)]
          | rw [e17, plcM_n (show ¬ plcV sg (nP sg) c 1 = 0 by rw [plcV, if_neg (by decide), if_pos rfl, ← e28]; exact h240)])
    · refine wp_lconst (v := 1) dL_same_243 rfl ?_
      refine wp_iload dL_same_244 rfl ?_
      refine wp_lshl dL_same_246 ?_
      refine wp_goto (tgt := 251) dL_same_247 (by decide) ?_
      refine wp_lor dL_same_251 ?_
      refine wp_lstore (L' := [some (.ref 8), some (.int x), some (.ref 235), some (.ref 236), some (.ref 237), some (.ref 238), some (.ref 239), some (.ref 240), some (.ref 241), some (.int v9), some (.int (nI (cq (M 238) c))), some (.int v11), some (.int v12), some (.int v13), some (.int v14), some (.long _), none, some (.long _), none, some (.long _), none, some (.long _), none, some (.long _), none, some (.int (nI c)), some (.int v26), some (.int v27), some (.int v28), none, none]) dL_same_252 (by decide) rfl ?_
      exact s254 _ _ _ _ _ _ _ n15 (by
        first
          | rw [e17, plcM_z (show plcV sg (nP sg) c 1 = 0 by rw [plcV, if_neg (by decide), if_pos rfl, ← e28]; exact h240)]
          | rw [e17, plcM_n (show ¬ plcV sg (nP sg) c 1 = 0 by rw [plcV, if_neg (by decide), if_pos rfl, ← e28]; exact h240)])
  have s218 : ∀ (v26 v27 v28 : Int32) (t29 t30 : Option Value), v27 = crest sg c → v28 = trough sg c → WP γ l mL_same 7 247 247 218 [some (.ref 8), some (.int x), some (.ref 235), some (.ref 236), some (.ref 237), some (.ref 238), some (.ref 239), some (.ref 240), some (.ref 241), some (.int v9), some (.int (nI (cq (M 238) c))), some (.int v11), some (.int v12), some (.int v13), some (.int v14), some (.long w15), none, some (.long w17), none, some (.long w19), none, some (.long w21), none, some (.long w23), none, some (.int (nI c)), some (.int v26), some (.int v27), some (.int v28), t29, t30] [] 247 M R K := by
    intro v26 v27 v28 t29 t30 e27 e28
    refine wp_drop [some (.ref 8), some (.int x), some (.ref 235), some (.ref 236), some (.ref 237), some (.ref 238), some (.ref 239), some (.ref 240), some (.ref 241), some (.int v9), some (.int (nI (cq (M 238) c))), some (.int v11), some (.int v12), some (.int v13), some (.int v14), some (.long w15), none, some (.long w17), none, some (.long w19), none, some (.long w21), none, some (.long w23), none, some (.int (nI c)), some (.int v26), some (.int v27), some (.int v28), none, none] (by simp [leL]) ?_
    refine wp_lload dL_same_218 rfl ?_
    refine wp_iload dL_same_220 rfl ?_
    refine wp_if_eq (tgt := 232) dL_same_222 (by decide) (fun h222 => ?_) (fun h222 => ?_)
    · refine wp_lconst (v := 0) dL_same_232 rfl ?_
      refine wp_lor dL_same_233 ?_
      refine wp_lstore (L' := [some (.ref 8), some (.int x), some (.ref 235), some (.ref 236), some (.ref 237), some (.ref 238), some (.ref 239), some (.ref 240), some (.ref 241), some (.int v9), some (.int (nI (cq (M 238) c))), some (.int v11), some (.int v12), some (.int v13), some (.int v14), some (.long _), none, some (.long _), none, some (.long _), none, some (.long _), none, some (.long _), none, some (.int (nI c)), some (.int v26), some (.int v27), some (.int v28), none, none]) dL_same_234 (by decide) rfl ?_
      exact s236 _ _ _ _ _ _ (by
        first
          | rw [e15, plcM_z (show plcV sg (nP sg) c 0 = 0 by rw [plcV, if_pos rfl, ← e27]; exact h222)]
          | rw [e15, plcM_n (show ¬ plcV sg (nP sg) c 0 = 0 by rw [plcV, if_pos rfl, ← e27]; exact h222)]) e28
    · refine wp_lconst (v := 1) dL_same_225 rfl ?_
      refine wp_iload dL_same_226 rfl ?_
      refine wp_lshl dL_same_228 ?_
      refine wp_goto (tgt := 233) dL_same_229 (by decide) ?_
      refine wp_lor dL_same_233 ?_
      refine wp_lstore (L' := [some (.ref 8), some (.int x), some (.ref 235), some (.ref 236), some (.ref 237), some (.ref 238), some (.ref 239), some (.ref 240), some (.ref 241), some (.int v9), some (.int (nI (cq (M 238) c))), some (.int v11), some (.int v12), some (.int v13), some (.int v14), some (.long _), none, some (.long _), none, some (.long _), none, some (.long _), none, some (.long _), none, some (.int (nI c)), some (.int v26), some (.int v27), some (.int v28), none, none]) dL_same_234 (by decide) rfl ?_
      exact s236 _ _ _ _ _ _ (by
        first
          | rw [e15, plcM_z (show plcV sg (nP sg) c 0 = 0 by rw [plcV, if_pos rfl, ← e27]; exact h222)]
          | rw [e15, plcM_n (show ¬ plcV sg (nP sg) c 0 = 0 by rw [plcV, if_pos rfl, ← e27]; exact h222)]) e28
  have s196 : ∀ (v26 v27 v28 : Int32) (t29 t30 : Option Value), v27 = crest sg c → v28 = trough sg c → WP γ l mL_same 7 247 247 196 [some (.ref 8), some (.int x), some (.ref 235), some (.ref 236), some (.ref 237), some (.ref 238), some (.ref 239), some (.ref 240), some (.ref 241), some (.int v9), some (.int (nI (cq (M 238) c))), some (.int v11), some (.int v12), some (.int v13), some (.int v14), some (.long w15), none, some (.long w17), none, some (.long w19), none, some (.long w21), none, some (.long w23), none, some (.int (nI c)), some (.int v26), some (.int v27), some (.int v28), t29, t30] [] 247 M R K := by
    intro v26 v27 v28 t29 t30 e27 e28
    refine wp_drop [some (.ref 8), some (.int x), some (.ref 235), some (.ref 236), some (.ref 237), some (.ref 238), some (.ref 239), some (.ref 240), some (.ref 241), some (.int v9), some (.int (nI (cq (M 238) c))), some (.int v11), some (.int v12), some (.int v13), some (.int v14), some (.long w15), none, some (.long w17), none, some (.long w19), none, some (.long w21), none, some (.long w23), none, some (.int (nI c)), some (.int v26), some (.int v27), some (.int v28), none, none] (by simp [leL]) ?_
    refine wp_aload_n dL_same_196 rfl ?_
    refine wp_iload dL_same_197 rfl ?_
    refine wp_iconst (v := 3) dL_same_199 (by decide) ?_
    refine wp_cV2 (z := mX5_cell) (n' := 247) kL_23 dL_same_200 (Nat.le_of_ble_eq_true rfl) (Nat.le_of_ble_eq_true rfl) tA_8 (Nat.le_of_ble_eq_true rfl) (Nat.le_of_ble_eq_true rfl) (Nat.le_refl _) (Nat.le_refl _) (s_cell (c := c) hc h40 (wp_af ?_))
    refine wp_top (cellR_3 sg c) ?_
    refine wp_iload dL_same_203 rfl ?_
    refine wp_if_eq (tgt := 212) dL_same_205 (by decide) (fun h205 => ?_) (fun h205 => ?_)
    · refine wp_iconst (v := 0) dL_same_212 (by decide) ?_
      refine wp_icmp_eq (tgt := 218) dL_same_213 (by decide) (fun h213 => ?_) (fun h213 => (by first | exact absurd (e28.symm.trans h205) h213 | exact absurd (trough_1 (fun q => h205 (e28.trans q))) h213))
      exact s218 _ _ _ _ _ e27 e28
    · refine wp_iconst (v := 1) dL_same_208 (by decide) ?_
      refine wp_goto (tgt := 213) dL_same_209 (by decide) ?_
      refine wp_icmp_eq (tgt := 218) dL_same_213 (by decide) (fun h213 => ?_) (fun h213 => (by first | exact absurd (e28.symm.trans h205) h213 | exact absurd (trough_1 (fun q => h205 (e28.trans q))) h213))
      exact s218 _ _ _ _ _ e27 e28
  have s176 : ∀ (v26 v27 v28 : Int32) (t29 t30 : Option Value), v27 = crest sg c → v28 = trough sg c → WP γ l mL_same 7 247 247 176 [some (.ref 8), some (.int x), some (.ref 235), some (.ref 236), some (.ref 237), some (.ref 238), some (.ref 239), some (.ref 240), some (.ref 241), some (.int v9), some (.int (nI (cq (M 238) c))), some (.int v11), some (.int v12), some (.int v13), some (.int v14), some (.long w15), none, some (.long w17), none, some (.long w19), none, some (.long w21), none, some (.long w23), none, some (.int (nI c)), some (.int v26), some (.int v27), some (.int v28), t29, t30] [] 247 M R K := by
    intro v26 v27 v28 t29 t30 e27 e28
    refine wp_drop [some (.ref 8), some (.int x), some (.ref 235), some (.ref 236), some (.ref 237), some (.ref 238), some (.ref 239), some (.ref 240), some (.ref 241), some (.int v9), some (.int (nI (cq (M 238) c))), some (.int v11), some (.int v12), some (.int v13), some (.int v14), some (.long w15), none, some (.long w17), none, some (.long w19), none, some (.long w21), none, some (.long w23), none, some (.int (nI c)), some (.int v26), some (.int v27), some (.int v28), none, none] (by simp [leL]) ?_
    refine wp_aload_n dL_same_176 rfl ?_
    refine wp_iload dL_same_177 rfl ?_
    refine wp_iconst (v := 2) dL_same_179 (by decide) ?_
    refine wp_cV2 (z := mX5_cell) (n' := 247) kL_23 dL_same_180 (Nat.le_of_ble_eq_true rfl) (Nat.le_of_ble_eq_true rfl) tA_8 (Nat.le_of_ble_eq_true rfl) (Nat.le_of_ble_eq_true rfl) (Nat.le_refl _) (Nat.le_refl _) (s_cell (c := c) hc h40 (wp_af ?_))
    refine wp_top (cellR_2 sg c) ?_
    refine wp_iload dL_same_183 rfl ?_
    refine wp_if_eq (tgt := 192) dL_same_185 (by decide) (fun h185 => ?_) (fun h185 => ?_)
    · refine wp_iconst (v := 0) dL_same_192 (by decide) ?_
      refine wp_icmp_ne (tgt := 216) dL_same_193 (by decide) (fun h193 => (by first | exact absurd (e27.symm.trans h185) h193 | exact absurd (crest_1 (fun q => h185 (e27.trans q))) h193)) (fun h193 => ?_)
      exact s196 _ _ _ _ _ e27 e28
    · refine wp_iconst (v := 1) dL_same_188 (by decide) ?_
      refine wp_goto (tgt := 193) dL_same_189 (by decide) ?_
      refine wp_icmp_ne (tgt := 216) dL_same_193 (by decide) (fun h193 => (by first | exact absurd (e27.symm.trans h185) h193 | exact absurd (crest_1 (fun q => h185 (e27.trans q))) h193)) (fun h193 => ?_)
      exact s196 _ _ _ _ _ e27 e28
  have s137 : ∀ (v26 v27 v28 : Int32) (t28 t29 t30 : Option Value), v27 = crest sg c → v28 = trough sg c → WP γ l mL_same 7 247 247 137 [some (.ref 8), some (.int x), some (.ref 235), some (.ref 236), some (.ref 237), some (.ref 238), some (.ref 239), some (.ref 240), some (.ref 241), some (.int v9), some (.int (nI (cq (M 238) c))), some (.int v11), some (.int v12), some (.int v13), some (.int v14), some (.long w15), none, some (.long w17), none, some (.long w19), none, some (.long w21), none, some (.long w23), none, some (.int (nI c)), some (.int v26), some (.int v27), t28, t29, t30] [.int v28] 247 M R K := by
    intro v26 v27 v28 t28 t29 t30 e27 e28
    refine wp_drop [some (.ref 8), some (.int x), some (.ref 235), some (.ref 236), some (.ref 237), some (.ref 238), some (.ref 239), some (.ref 240), some (.ref 241), some (.int v9), some (.int (nI (cq (M 238) c))), some (.int v11), some (.int v12), some (.int v13), some (.int v14), some (.long w15), none, some (.long w17), none, some (.long w19), none, some (.long w21), none, some (.long w23), none, some (.int (nI c)), some (.int v26), some (.int v27), none, none, none] (by simp [leL]) ?_
    refine wp_istore (L' := [some (.ref 8), some (.int x), some (.ref 235), some (.ref 236), some (.ref 237), some (.ref 238), some (.ref 239), some (.ref 240), some (.ref 241), some (.int v9), some (.int (nI (cq (M 238) c))), some (.int v11), some (.int v12), some (.int v13), some (.int v14), some (.long _), none, some (.long _), none, some (.long _), none, some (.long _), none, some (.long _), none, some (.int (nI c)), some (.int v26), some (.int v27), some (.int v28), none, none]) dL_same_137 (by decide) rfl ?_
    refine wp_aload_n dL_same_139 rfl ?_
    refine wp_iload dL_same_140 rfl ?_
    refine wp_iconst (v := 0) dL_same_142 (by decide) ?_
    refine wp_cV2 (z := mX5_cell) (n' := 247) kL_23 dL_same_143 (Nat.le_of_ble_eq_true rfl) (Nat.le_of_ble_eq_true rfl) tA_8 (Nat.le_of_ble_eq_true rfl) (Nat.le_of_ble_eq_true rfl) (Nat.le_refl _) (Nat.le_refl _) (s_cell (c := c) hc h40 (wp_af ?_))
    refine wp_top (cellR_0 sg c) ?_
    refine wp_aload_n dL_same_146 rfl ?_
    refine wp_iload dL_same_147 rfl ?_
    refine wp_iadn (i := c) rfl tA_236 (Nat.le_of_ble_eq_true rfl) (by rw [lA_236]; omega) (Nat.le_of_ble_eq_true rfl) dL_same_149 (hl.l (by omega)) ?_
    refine wp_sipush (v := 10000) dL_same_150 (by decide) ?_
    refine wp_iadd dL_same_153 ?_
    refine wp_icmp_ne (tgt := 216) dL_same_154 (by decide) (fun h154 => absurd rfl h154) (fun h154 => ?_)
    refine wp_aload_n dL_same_157 rfl ?_
    refine wp_iload dL_same_158 rfl ?_
    refine wp_iconst (v := 1) dL_same_160 (by decide) ?_
    refine wp_cV2 (z := mX5_cell) (n' := 247) kL_23 dL_same_161 (Nat.le_of_ble_eq_true rfl) (Nat.le_of_ble_eq_true rfl) tA_8 (Nat.le_of_ble_eq_true rfl) (Nat.le_of_ble_eq_true rfl) (Nat.le_refl _) (Nat.le_refl _) (s_cell (c := c) hc h40 (wp_af ?_))
    refine wp_top (cellR_1 sg c) ?_
    refine wp_aload dL_same_164 rfl ?_
    refine wp_iload dL_same_166 rfl ?_
    refine wp_iadn (i := c) rfl tA_237 (Nat.le_of_ble_eq_true rfl) (by rw [lA_237]; omega) (Nat.le_of_ble_eq_true rfl) dL_same_168 (hl.s (by omega)) ?_
    refine wp_sipush (v := 10000) dL_same_169 (by decide) ?_
    refine wp_iadd dL_same_172 ?_
    refine wp_icmp_ne (tgt := 216) dL_same_173 (by decide) (fun h173 => absurd rfl h173) (fun h173 => ?_)
    exact s176 _ _ _ _ _ e27 e28
  have s99 : ∀ (v26 v27 : Int32) (t27 t28 t29 t30 : Option Value), v26 = b01 (0 < c ∧ c < 39) → v27 = crest sg c → WP γ l mL_same 7 247 247 99 [some (.ref 8), some (.int x), some (.ref 235), some (.ref 236), some (.ref 237), some (.ref 238), some (.ref 239), some (.ref 240), some (.ref 241), some (.int v9), some (.int (nI (cq (M 238) c))), some (.int v11), some (.int v12), some (.int v13), some (.int v14), some (.long w15), none, some (.long w17), none, some (.long w19), none, some (.long w21), none, some (.long w23), none, some (.int (nI c)), some (.int v26), t27, t28, t29, t30] [.int v27] 247 M R K := by
    intro v26 v27 t27 t28 t29 t30 e26 e27
    refine wp_drop [some (.ref 8), some (.int x), some (.ref 235), some (.ref 236), some (.ref 237), some (.ref 238), some (.ref 239), some (.ref 240), some (.ref 241), some (.int v9), some (.int (nI (cq (M 238) c))), some (.int v11), some (.int v12), some (.int v13), some (.int v14), some (.long w15), none, some (.long w17), none, some (.long w19), none, some (.long w21), none, some (.long w23), none, some (.int (nI c)), some (.int v26), none, none, none, none] (by simp [leL]) ?_
    refine wp_istore (L' := [some (.ref 8), some (.int x), some (.ref 235), some (.ref 236), some (.ref 237), some (.ref 238), some (.ref 239), some (.ref 240), some (.ref 241), some (.int v9), some (.int (nI (cq (M 238) c))), some (.int v11), some (.int v12), some (.int v13), some (.int v14), some (.long _), none, some (.long _), none, some (.long _), none, some (.long _), none, some (.long _), none, some (.int (nI c)), some (.int v26), some (.int v27), none, none, none]) dL_same_99 (by decide) rfl ?_
    refine wp_iload dL_same_101 rfl ?_
    refine wp_if_eq (tgt := 136) dL_same_103 (by decide) (fun h103 => ?_) (fun h103 => ?_)
    · refine wp_iconst (v := 0) dL_same_136 (by decide) ?_
      exact s137 _ _ _ _ _ _ e27 (by
        first
          | exact (if_pos ⟨hin, Int32.not_le.mp h116, Int32.not_le.mp h129⟩).symm
          | exact (if_neg (fun q => absurd q.1 (b01_0.mp (e26.symm.trans h103)))).symm
          | exact (if_neg (fun q => absurd q.2.2 (Int32.not_lt.mpr h129))).symm
          | exact (if_neg (fun q => absurd q.2.1 (Int32.not_lt.mpr h116))).symm)
    · have hin := b01_1.mp (by rw [← e26]; exact h103)
      refine wp_aload_n dL_same_106 rfl ?_
      refine wp_iload dL_same_107 rfl ?_
      refine wp_iadn (i := c) rfl tA_236 (Nat.le_of_ble_eq_true rfl) (by rw [lA_236]; omega) (Nat.le_of_ble_eq_true rfl) dL_same_109 (hl.l (by omega)) ?_
      refine wp_aload_n dL_same_110 rfl ?_
      refine wp_iload dL_same_111 rfl ?_
      refine wp_iconst (v := 1) dL_same_113 (by decide) ?_
      refine wp_isub dL_same_114 ?_
      refine wp_iadn (i := (c - 1)) (ix_sub (a := c) (b := 1) rfl rfl (by omega)) tA_236 (Nat.le_of_ble_eq_true rfl) (by rw [lA_236]; omega) (Nat.le_of_ble_eq_true rfl) dL_same_115 (hl.l (by omega)) ?_
      refine wp_icmp_ge (tgt := 136) dL_same_116 (by decide) (fun h116 => ?_) (fun h116 => ?_)
      · refine wp_iconst (v := 0) dL_same_136 (by decide) ?_
        exact s137 _ _ _ _ _ _ e27 (by
          first
            | exact (if_pos ⟨hin, Int32.not_le.mp h116, Int32.not_le.mp h129⟩).symm
            | exact (if_neg (fun q => absurd q.1 (b01_0.mp (e26.symm.trans h103)))).symm
            | exact (if_neg (fun q => absurd q.2.2 (Int32.not_lt.mpr h129))).symm
            | exact (if_neg (fun q => absurd q.2.1 (Int32.not_lt.mpr h116))).symm)
      · refine wp_aload_n dL_same_119 rfl ?_
        refine wp_iload dL_same_120 rfl ?_
        refine wp_iadn (i := c) rfl tA_236 (Nat.le_of_ble_eq_true rfl) (by rw [lA_236]; omega) (Nat.le_of_ble_eq_true rfl) dL_same_122 (hl.l (by omega)) ?_
        refine wp_aload_n dL_same_123 rfl ?_
        refine wp_iload dL_same_124 rfl ?_
        refine wp_iconst (v := 1) dL_same_126 (by decide) ?_
        refine wp_iadd dL_same_127 ?_
        refine wp_iadn (i := (c + 1)) (ix_add rfl rfl) tA_236 (Nat.le_of_ble_eq_true rfl) (by rw [lA_236]; omega) (Nat.le_of_ble_eq_true rfl) dL_same_128 (hl.l (by omega)) ?_
        refine wp_icmp_ge (tgt := 136) dL_same_129 (by decide) (fun h129 => ?_) (fun h129 => ?_)
        · refine wp_iconst (v := 0) dL_same_136 (by decide) ?_
          exact s137 _ _ _ _ _ _ e27 (by
            first
              | exact (if_pos ⟨hin, Int32.not_le.mp h116, Int32.not_le.mp h129⟩).symm
              | exact (if_neg (fun q => absurd q.1 (b01_0.mp (e26.symm.trans h103)))).symm
              | exact (if_neg (fun q => absurd q.2.2 (Int32.not_lt.mpr h129))).symm
              | exact (if_neg (fun q => absurd q.2.1 (Int32.not_lt.mpr h116))).symm)
        · refine wp_iconst (v := 1) dL_same_132 (by decide) ?_
          refine wp_goto (tgt := 137) dL_same_133 (by decide) ?_
          exact s137 _ _ _ _ _ _ e27 (by
            first
              | exact (if_pos ⟨hin, Int32.not_le.mp h116, Int32.not_le.mp h129⟩).symm
              | exact (if_neg (fun q => absurd q.1 (b01_0.mp (e26.symm.trans h103)))).symm
              | exact (if_neg (fun q => absurd q.2.2 (Int32.not_lt.mpr h129))).symm
              | exact (if_neg (fun q => absurd q.2.1 (Int32.not_lt.mpr h116))).symm)
  have s61 : ∀ (v26 : Int32), v26 = b01 (0 < c ∧ c < 39) → WP γ l mL_same 7 247 247 61 [some (.ref 8), some (.int x), some (.ref 235), some (.ref 236), some (.ref 237), some (.ref 238), some (.ref 239), some (.ref 240), some (.ref 241), some (.int v9), some (.int (nI (cq (M 238) c))), some (.int v11), some (.int v12), some (.int v13), some (.int v14), some (.long w15), none, some (.long w17), none, some (.long w19), none, some (.long w21), none, some (.long w23), none, some (.int (nI c)), none, none, none, none, none] [.int v26] 247 M R K := by
    intro v26 e26
    refine wp_istore (L' := [some (.ref 8), some (.int x), some (.ref 235), some (.ref 236), some (.ref 237), some (.ref 238), some (.ref 239), some (.ref 240), some (.ref 241), some (.int v9), some (.int (nI (cq (M 238) c))), some (.int v11), some (.int v12), some (.int v13), some (.int v14), some (.long _), none, some (.long _), none, some (.long _), none, some (.long _), none, some (.long _), none, some (.int (nI c)), some (.int v26), none, none, none, none]) dL_same_61 (by decide) rfl ?_
    refine wp_iload dL_same_63 rfl ?_
    refine wp_if_eq (tgt := 98) dL_same_65 (by decide) (fun h65 => ?_) (fun h65 => ?_)
    · refine wp_iconst (v := 0) dL_same_98 (by decide) ?_
      exact s99 _ _ _ _ _ _ e26 (by
        first
          | exact (if_pos ⟨hin, Int32.not_le.mp h78, Int32.not_le.mp h91⟩).symm
          | exact (if_neg (fun q => absurd q.1 (b01_0.mp (e26.symm.trans h65)))).symm
          | exact (if_neg (fun q => absurd q.2.2 (Int32.not_lt.mpr h91))).symm
          | exact (if_neg (fun q => absurd q.2.1 (Int32.not_lt.mpr h78))).symm)
    · have hin := b01_1.mp (by rw [← e26]; exact h65)
      refine wp_aload_n dL_same_68 rfl ?_
      refine wp_iload dL_same_69 rfl ?_
      refine wp_iadn (i := c) rfl tA_236 (Nat.le_of_ble_eq_true rfl) (by rw [lA_236]; omega) (Nat.le_of_ble_eq_true rfl) dL_same_71 (hl.l (by omega)) ?_
      refine wp_aload_n dL_same_72 rfl ?_
      refine wp_iload dL_same_73 rfl ?_
      refine wp_iconst (v := 1) dL_same_75 (by decide) ?_
      refine wp_isub dL_same_76 ?_
      refine wp_iadn (i := (c - 1)) (ix_sub (a := c) (b := 1) rfl rfl (by omega)) tA_236 (Nat.le_of_ble_eq_true rfl) (by rw [lA_236]; omega) (Nat.le_of_ble_eq_true rfl) dL_same_77 (hl.l (by omega)) ?_
      refine wp_icmp_le (tgt := 98) dL_same_78 (by decide) (fun h78 => ?_) (fun h78 => ?_)
      · refine wp_iconst (v := 0) dL_same_98 (by decide) ?_
        exact s99 _ _ _ _ _ _ e26 (by
          first
            | exact (if_pos ⟨hin, Int32.not_le.mp h78, Int32.not_le.mp h91⟩).symm
            | exact (if_neg (fun q => absurd q.1 (b01_0.mp (e26.symm.trans h65)))).symm
            | exact (if_neg (fun q => absurd q.2.2 (Int32.not_lt.mpr h91))).symm
            | exact (if_neg (fun q => absurd q.2.1 (Int32.not_lt.mpr h78))).symm)
      · refine wp_aload_n dL_same_81 rfl ?_
        refine wp_iload dL_same_82 rfl ?_
        refine wp_iadn (i := c) rfl tA_236 (Nat.le_of_ble_eq_true rfl) (by rw [lA_236]; omega) (Nat.le_of_ble_eq_true rfl) dL_same_84 (hl.l (by omega)) ?_
        refine wp_aload_n dL_same_85 rfl ?_
        refine wp_iload dL_same_86 rfl ?_
        refine wp_iconst (v := 1) dL_same_88 (by decide) ?_
        refine wp_iadd dL_same_89 ?_
        refine wp_iadn (i := (c + 1)) (ix_add rfl rfl) tA_236 (Nat.le_of_ble_eq_true rfl) (by rw [lA_236]; omega) (Nat.le_of_ble_eq_true rfl) dL_same_90 (hl.l (by omega)) ?_
        refine wp_icmp_le (tgt := 98) dL_same_91 (by decide) (fun h91 => ?_) (fun h91 => ?_)
        · refine wp_iconst (v := 0) dL_same_98 (by decide) ?_
          exact s99 _ _ _ _ _ _ e26 (by
            first
              | exact (if_pos ⟨hin, Int32.not_le.mp h78, Int32.not_le.mp h91⟩).symm
              | exact (if_neg (fun q => absurd q.1 (b01_0.mp (e26.symm.trans h65)))).symm
              | exact (if_neg (fun q => absurd q.2.2 (Int32.not_lt.mpr h91))).symm
              | exact (if_neg (fun q => absurd q.2.1 (Int32.not_lt.mpr h78))).symm)
        · refine wp_iconst (v := 1) dL_same_94 (by decide) ?_
          refine wp_goto (tgt := 99) dL_same_95 (by decide) ?_
          exact s99 _ _ _ _ _ _ e26 (by
            first
              | exact (if_pos ⟨hin, Int32.not_le.mp h78, Int32.not_le.mp h91⟩).symm
              | exact (if_neg (fun q => absurd q.1 (b01_0.mp (e26.symm.trans h65)))).symm
              | exact (if_neg (fun q => absurd q.2.2 (Int32.not_lt.mpr h91))).symm
              | exact (if_neg (fun q => absurd q.2.1 (Int32.not_lt.mpr h78))).symm)
  refine wp_drop [some (.ref 8), some (.int x), some (.ref 235), some (.ref 236), some (.ref 237), some (.ref 238), some (.ref 239), some (.ref 240), some (.ref 241), some (.int v9), some (.int (nI (cq (M 238) c))), some (.int v11), some (.int v12), some (.int v13), some (.int v14), some (.long w15), none, some (.long w17), none, some (.long w19), none, some (.long w21), none, some (.long w23), none, some (.int (nI c)), none, none, none, none, none] (by simp [leL]) ?_
  refine wp_iload dL_same_37 rfl ?_
  refine wp_bipush (v := 40) dL_same_39 (by decide) ?_
  refine wp_icN_ge (a := c) (b := 40) (tgt := 571) dL_same_41 (by decide) rfl rfl (by omega) (by omega) (fun h41 => absurd h41 (by omega)) (fun h41 => ?_)
  refine wp_iload dL_same_44 rfl ?_
  refine wp_ifN_le (a := c) (tgt := 60) dL_same_46 (by decide) rfl (by omega) (fun h46 => ?_) (fun h46 => ?_)
  · refine wp_iconst (v := 0) dL_same_60 (by decide) ?_
    exact s61 _ (by first | exact (b01_t ⟨by omega, by omega⟩).symm | exact (b01_f (by omega)).symm)
  · refine wp_iload dL_same_49 rfl ?_
    refine wp_bipush (v := 39) dL_same_51 (by decide) ?_
    refine wp_icN_ge (a := c) (b := 39) (tgt := 60) dL_same_53 (by decide) rfl rfl (by omega) (by omega) (fun h53 => ?_) (fun h53 => ?_)
    · refine wp_iconst (v := 0) dL_same_60 (by decide) ?_
      exact s61 _ (by first | exact (b01_t ⟨by omega, by omega⟩).symm | exact (b01_f (by omega)).symm)
    · refine wp_iconst (v := 1) dL_same_56 (by decide) ?_
      refine wp_goto (tgt := 61) dL_same_57 (by decide) ?_
      exact s61 _ (by first | exact (b01_t ⟨by omega, by omega⟩).symm | exact (b01_f (by omega)).symm)

