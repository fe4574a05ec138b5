/-! SHAPES AND CLASSES -/
def cn (t : Nat) : Nat := if t = 0 then 4 else if t = 1 then 2 else if t = 2 then 9 else if t = 3 then 6 else if t = 4 then 8 else if t = 5 then 7 else 13
theorem tg_big {a : Nat} (h : 247 ≤ a) : tg a = 99 := by
  unfold tg Sh
  rw [List.getD_eq_getElem?_getD, List.getElem?_eq_none (by have : shL.length = 247 := by decide +kernel
                                                            omega)]
  rfl
theorem sh_dec : (List.range 247).all (fun a => decide (tg a < 8 → 8 ≤ a ∧ tg a < 7 ∧ ln a = cn (tg a)) && decide (11 ≤ tg a → tg a < 16 → 8 ≤ a) && decide (ln a ≤ 2220)) = true := by decide +kernel
theorem sh_at {a : Nat} (h : a < 247) : (tg a < 8 → 8 ≤ a ∧ tg a < 7 ∧ ln a = cn (tg a)) ∧ (11 ≤ tg a → tg a < 16 → 8 ≤ a) ∧ ln a ≤ 2220 := by
  have h1 := List.all_eq_true.mp sh_dec a (List.mem_range.mpr h)
  simp only [Bool.and_eq_true, decide_eq_true_eq] at h1
  exact ⟨h1.1.1, h1.1.2, h1.2⟩
theorem tg_lt {a : Nat} (h : tg a < 16) : a < 247 := by
  rcases Nat.lt_or_ge a 247 with h1 | h1
  · exact h1
  · rw [tg_big h1] at h
    omega
theorem tg_obj {a : Nat} (h : tg a < 8) : 8 ≤ a ∧ tg a < 7 ∧ ln a = cn (tg a) := (sh_at (tg_lt (by omega))).1 h
theorem ln_le (a : Nat) : ln a ≤ 2220 := by
  rcases Nat.lt_or_ge a 247 with h1 | h1
  · exact (sh_at h1).2.2
  · unfold ln Sh
    rw [List.getD_eq_getElem?_getD, List.getElem?_eq_none (by have : shL.length = 247 := by decide +kernel
                                                              omega)]
    exact Nat.zero_le _
/-- what the rows ask of a class -/
def ClsOk (ci : Nat) (q : vw_C) : Prop := q.2.2 = cn ci ∧ (∀ w ∈ u_ws q.1 q.2.1 q.2.2, w ∈ WS) ∧ (∃ ty : Nat → FieldType, (∀ k, k < q.2.2 → parseFieldDescriptor (q.2.1 k).2.2.1 = some (ty k)) ∧ ∀ k, k < q.2.2 → defaultValue (ty k) = if isR ci k then .null else .int 0) ∧ (∀ a, a < q.2.2 → ∀ b, b < q.2.2 → a ≠ b → (q.2.1 a).2.1 ≠ (q.2.1 b).2.1) ∧ Cond.instantiable q.1 q.2.2 ∈ WS ∧ Cond.initialized q.1 ∈ WS
--CLASSES--
theorem clsw0 : ∀ w ∈ [u_lay RX0 TX0 0, u_lay RX0 TX0 1, u_lay RX0 TX0 2, u_lay RX0 TX0 3], w ∈ WS := (List.forall_mem_cons.mpr ⟨q86, (List.forall_mem_cons.mpr ⟨q88, (List.forall_mem_cons.mpr ⟨q90, (List.forall_mem_cons.mpr ⟨q92, (fun _ h => absurd h List.not_mem_nil)⟩)⟩)⟩)⟩)
theorem cls0 : ClsOk 0 (RX0, TX0, 4) := ⟨by decide +kernel, clsw0, ⟨tyX0, tyX0_ok, by decide +kernel⟩, nmX0, q74, q4⟩
theorem clsw1 : ∀ w ∈ [u_lay RX1 TX1 0, u_lay RX1 TX1 1], w ∈ WS := (List.forall_mem_cons.mpr ⟨q168, (List.forall_mem_cons.mpr ⟨q170, (fun _ h => absurd h List.not_mem_nil)⟩)⟩)
theorem cls1 : ClsOk 1 (RX1, TX1, 2) := ⟨by decide +kernel, clsw1, ⟨tyX1, tyX1_ok, by decide +kernel⟩, nmX1, q157, q6⟩
theorem clsw2 : ∀ w ∈ [u_lay RX2 TX2 0, u_lay RX2 TX2 1, u_lay RX2 TX2 2, u_lay RX2 TX2 3, u_lay RX2 TX2 4, u_lay RX2 TX2 5, u_lay RX2 TX2 6, u_lay RX2 TX2 7, u_lay RX2 TX2 8], w ∈ WS := (List.forall_mem_cons.mpr ⟨q136, (List.forall_mem_cons.mpr ⟨q138, (List.forall_mem_cons.mpr ⟨q140, (List.forall_mem_cons.mpr ⟨q142, (List.forall_mem_cons.mpr ⟨q144, (List.forall_mem_cons.mpr ⟨q146, (List.forall_mem_cons.mpr ⟨q148, (List.forall_mem_cons.mpr ⟨q150, (List.forall_mem_cons.mpr ⟨q152, (fun _ h => absurd h List.not_mem_nil)⟩)⟩)⟩)⟩)⟩)⟩)⟩)⟩)⟩)
theorem cls2 : ClsOk 2 (RX2, TX2, 9) := ⟨by decide +kernel, clsw2, ⟨tyX2, tyX2_ok, by decide +kernel⟩, nmX2, q129, q5⟩
theorem clsw3 : ∀ w ∈ [u_lay RX3 TX3 0, u_lay RX3 TX3 1, u_lay RX3 TX3 2, u_lay RX3 TX3 3, u_lay RX3 TX3 4, u_lay RX3 TX3 5], w ∈ WS := (List.forall_mem_cons.mpr ⟨q60, (List.forall_mem_cons.mpr ⟨q62, (List.forall_mem_cons.mpr ⟨q64, (List.forall_mem_cons.mpr ⟨q66, (List.forall_mem_cons.mpr ⟨q68, (List.forall_mem_cons.mpr ⟨q70, (fun _ h => absurd h List.not_mem_nil)⟩)⟩)⟩)⟩)⟩)⟩)
theorem cls3 : ClsOk 3 (RX3, TX3, 6) := ⟨by decide +kernel, clsw3, ⟨tyX3, tyX3_ok, by decide +kernel⟩, nmX3, q37, q3⟩
theorem clsw4 : ∀ w ∈ [u_lay RX4 TX4 0, u_lay RX4 TX4 1, u_lay RX4 TX4 2, u_lay RX4 TX4 3, u_lay RX4 TX4 4, u_lay RX4 TX4 5, u_lay RX4 TX4 6, u_lay RX4 TX4 7], w ∈ WS := (List.forall_mem_cons.mpr ⟨q111, (List.forall_mem_cons.mpr ⟨q113, (List.forall_mem_cons.mpr ⟨q115, (List.forall_mem_cons.mpr ⟨q117, (List.forall_mem_cons.mpr ⟨q119, (List.forall_mem_cons.mpr ⟨q121, (List.forall_mem_cons.mpr ⟨q123, (List.forall_mem_cons.mpr ⟨q125, (fun _ h => absurd h List.not_mem_nil)⟩)⟩)⟩)⟩)⟩)⟩)⟩)⟩)
theorem cls4 : ClsOk 4 (RX4, TX4, 8) := ⟨by decide +kernel, clsw4, ⟨tyX4, tyX4_ok, by decide +kernel⟩, nmX4, q19, q2⟩
theorem clsw5 : ∀ w ∈ [u_lay RX5 TX5 0, u_lay RX5 TX5 1, u_lay RX5 TX5 2, u_lay RX5 TX5 3, u_lay RX5 TX5 4, u_lay RX5 TX5 5, u_lay RX5 TX5 6], w ∈ WS := (List.forall_mem_cons.mpr ⟨q180, (List.forall_mem_cons.mpr ⟨q182, (List.forall_mem_cons.mpr ⟨q184, (List.forall_mem_cons.mpr ⟨q186, (List.forall_mem_cons.mpr ⟨q188, (List.forall_mem_cons.mpr ⟨q190, (List.forall_mem_cons.mpr ⟨q192, (fun _ h => absurd h List.not_mem_nil)⟩)⟩)⟩)⟩)⟩)⟩)⟩)
theorem cls5 : ClsOk 5 (RX5, TX5, 7) := ⟨by decide +kernel, clsw5, ⟨tyX5, tyX5_ok, by decide +kernel⟩, nmX5, q11, q1⟩
theorem qw_native : Cond.native arraycopyName ∈ WS := q206
theorem qw_static : Cond.static arraycopyName ∈ WS := q205
theorem qw_system : Cond.initialized "java/lang/System" ∈ WS := q7
theorem cls_ok {ci : Nat} {q : vw_C} (h : vwCl[ci]? = some q) : ClsOk ci q := by
  match ci, h with
  | 0, h => cases h; exact cls0
  | 1, h => cases h; exact cls1
  | 2, h => cases h; exact cls2
  | 3, h => cases h; exact cls3
  | 4, h => cases h; exact cls4
  | 5, h => cases h; exact cls5
  | k + 6, h => simp at h
/-- a field that an instruction reads: class ci, slot k -/
def Fl (own : String) (idx ci k : Nat) : Prop := ∃ q : vw_C, vwCl[ci]? = some q ∧ k < cn ci ∧ Cond.fieldLink own idx (q.2.1 k).1 (q.2.1 k).2.1 (q.2.1 k).2.2.1 ∈ WS
/-- a field that an instruction writes -/
def Fp (own : String) (idx ci k : Nat) (ty : FieldType) (fin : Bool) : Prop := ∃ q : vw_C, vwCl[ci]? = some q ∧ k < cn ci ∧ Cond.fieldLink own idx (q.2.1 k).1 (q.2.1 k).2.1 (q.2.1 k).2.2.1 ∈ WS ∧ (q.2.1 k).2.2.2 = fin ∧ parseFieldDescriptor (q.2.1 k).2.2.1 = some ty ∧ (fin = true → (q.2.1 k).1 = own)
section HROWS
variable {γ : Gm} {l : Launch} {y : Mt} {d nE nX pc n : Nat} {L : List (Option Value)} {S : List Value} {M : Mm} {R : Rm} {K : Option Value → Nat → Mm → Rm → Prop}
theorem wl_obj {a ci : Nat} (ht : tg a = ci) (h7 : ci < 7) (ha : a < n) : (wl γ n M R)[a - 8]? = some (ph γ a, .inr (ci, (List.range (cn ci)).map (fv γ M R a))) := by
  obtain ⟨h8, -, hl⟩ := tg_obj (a := a) (by omega)
  rw [wl_get h8 ha, ce_o (by omega), hl, ht]
theorem cl_lt {ci : Nat} {q : vw_C} (h : vwCl[ci]? = some q) : ci < 7 := Nat.lt_of_lt_of_le (List.getElem?_eq_some_iff.mp h).1 (by decide)
theorem wp_getI {a ci k idx : Nat} (hF : Fl y.1.cls idx ci k) (ht : tg a = ci) (hr : isR ci k = false) (ha : a < n) (hd : decode y.2.1 pc = .ok (.getfield idx, 3)) (kk : WP γ l y d nE nX (pc + 3) L (.int (M a k) :: S) n M R K) : WP γ l y d nE nX pc L (.ref a :: S) n M R K := by
  obtain ⟨⟨C, T, N⟩, hq, hk, hlink⟩ := hF
  obtain ⟨hN, hin, -⟩ := cls_ok hq
  intro p e R0 s m args below meth c Q H locs ls C0 hret hW h1 h2 hl
  refine va_get C0.1 C0.2.1 C0.2.2.2.2.1 hin C0.2.2.2.1 C0.2.2.2.2.2.1.1 hW.1 (a - 8) (wl_obj ht (cl_lt hq) ha) hq k (by omega) (C0.2.2.2.2.1 _ hlink) (fun _ h => h) (v := .int (M a k)) ?_ hd (kk p e R0 s m args below meth c Q H locs ls C0 hret hW h1 h2 hl)
  rw [List.getElem?_map, List.getElem?_range hk, Option.map_some, fv, ht, hr]
  rfl
theorem wp_getR {a ci k idx : Nat} (hF : Fl y.1.cls idx ci k) (ht : tg a = ci) (hr : isR ci k = true) (h0 : R a k ≠ 0) (ha : a < n) (hd : decode y.2.1 pc = .ok (.getfield idx, 3)) (kk : WP γ l y d nE nX (pc + 3) L (.ref (R a k) :: S) n M R K) : WP γ l y d nE nX pc L (.ref a :: S) n M R K := by
  obtain ⟨⟨C, T, N⟩, hq, hk, hlink⟩ := hF
  obtain ⟨hN, hin, -⟩ := cls_ok hq
  intro p e R0 s m args below meth c Q H locs ls C0 hret hW h1 h2 hl
  refine va_get C0.1 C0.2.1 C0.2.2.2.2.1 hin C0.2.2.2.1 C0.2.2.2.2.2.1.1 hW.1 (a - 8) (wl_obj ht (cl_lt hq) ha) hq k (by omega) (C0.2.2.2.2.1 _ hlink) (fun _ h => h) (v := .ref (ph γ (R a k))) ?_ hd (kk p e R0 s m args below meth c Q H locs ls C0 hret hW h1 h2 hl)
  rw [List.getElem?_map, List.getElem?_range hk, Option.map_some, fv, ht, hr, if_pos rfl, rv, if_neg h0]
theorem wl_putI {a ci k : Nat} {x : Int32} (ht : tg a = ci) (h7 : ci < 7) (ha : a < n) (hr : isR ci k = false) : (wl γ n M R).set (a - 8) (ph γ a, .inr (ci, ((List.range (cn ci)).map (fv γ M R a)).set k (.int x))) = wl γ n (u2 M a k x) R := by
  obtain ⟨h8, -, hl⟩ := tg_obj (a := a) (by omega)
  refine wl_set h8 ha ?_ (fun j hj => ce_congr (u2_n _ _ _ hj) rfl)
  rw [ce_o (by omega), hl, ht, range_set, fv_setI (by rw [ht]; exact hr)]
theorem wl_putR {a ci k r : Nat} (ht : tg a = ci) (h7 : ci < 7) (ha : a < n) (hr : isR ci k = true) (h0 : r ≠ 0) : (wl γ n M R).set (a - 8) (ph γ a, .inr (ci, ((List.range (cn ci)).map (fv γ M R a)).set k (.ref (ph γ r)))) = wl γ n M (u2 R a k r) := by
  obtain ⟨h8, -, hl⟩ := tg_obj (a := a) (by omega)
  refine wl_set h8 ha ?_ (fun j hj => ce_congr rfl (u2_n _ _ _ hj))
  rw [ce_o (by omega), hl, ht, range_set, fv_setR (by rw [ht]; exact hr) h0]
theorem wp_putI {a ci k idx : Nat} {x : Int32} {ty : FieldType} (hF : Fp y.1.cls idx ci k ty false) (ht : tg a = ci) (hr : isR ci k = false) (hx : narrow ty (.int x) = .int x ∧ fits ty (.int x) = true) (ha : a < n) (hd : decode y.2.1 pc = .ok (.putfield idx, 3)) (kk : WP γ l y d nE nX (pc + 3) L S n (u2 M a k x) R K) : WP γ l y d nE nX pc L (.int x :: .ref a :: S) n M R K := by
  obtain ⟨⟨C, T, N⟩, hq, hk, hlink, hfin, hty, -⟩ := hF
  obtain ⟨hN, hin, ⟨ty0, hty0, -⟩, hnm, -⟩ := cls_ok hq
  intro p e R0 s m args below meth c Q H locs ls C0 hret hW h1 h2 hl
  refine va_put C0.1 C0.2.1 C0.2.2.2.2.1 hin ty0 hty0 hnm C0.2.2.2.1 C0.2.2.2.2.2.1.1 hW.1 (wl_D γ n M R) hW.2 (a - 8) (wl_obj ht (cl_lt hq) ha) hq k (by omega) (C0.2.2.2.2.1 _ hlink) (fun _ h => h) hfin hty hx.1 hx.2 (by simpa using hk) hd (fun H1 locs1 hP1 _ hS1 => ?_)
  rw [show (pv γ (.int x)) = .int x from rfl, wl_putI ht (cl_lt hq) ha hr] at hP1
  exact kk p e R0 s m args below meth c Q H1 locs1 ls C0 hret ⟨hP1, hS1⟩ h1 h2 hl
theorem wp_putR {a ci k idx r : Nat} {ty : FieldType} (hF : Fp y.1.cls idx ci k ty true) (ht : tg a = ci) (hr : isR ci k = true) (hx : ∀ z : Nat, narrow ty (.ref z) = .ref z ∧ fits ty (.ref z) = true) (h0 : r ≠ 0) (ha : a < n) (hi : y.1.name = "<init>") (hd : decode y.2.1 pc = .ok (.putfield idx, 3)) (kk : WP γ l y d nE nX (pc + 3) L S n M (u2 R a k r) K) : WP γ l y d nE nX pc L (.ref r :: .ref a :: S) n M R K := by
  obtain ⟨⟨C, T, N⟩, hq, hk, hlink, hfin, hty, hdecl⟩ := hF
  obtain ⟨hN, hin, ⟨ty0, hty0, -⟩, hnm, -⟩ := cls_ok hq
  intro p e R0 s m args below meth c Q H locs ls C0 hret hW h1 h2 hl
  refine va_putF C0.1 C0.2.1 C0.2.2.2.2.1 hin ty0 hty0 hnm C0.2.2.2.1 C0.2.2.2.2.2.1.1 hW.1 (wl_D γ n M R) hW.2 (a - 8) (wl_obj ht (cl_lt hq) ha) hq k (by omega) (C0.2.2.2.2.1 _ hlink) (fun _ h => h) hfin (C0.2.2.2.2.2.2.2.2 hi) (hdecl rfl) hty (hx _).1 (hx _).2 (by simpa using hk) hd (fun H1 locs1 hP1 _ hS1 => ?_)
  rw [show (pv γ (.ref r)) = .ref (ph γ r) from rfl, wl_putR ht (cl_lt hq) ha hr h0] at hP1
  exact kk p e R0 s m args below meth c Q H1 locs1 ls C0 hret ⟨hP1, hS1⟩ h1 h2 hl
/-! arrays -/
theorem wl_ari {a : Nat} (h1 : 10 ≤ tg a) (h2 : tg a < 13) (h8 : 8 ≤ a) (ha : a < n) : (wl γ n M R)[a - 8]? = some (ph γ a, .inl (gC γ (tg a), ln a, .inl (M a))) := by rw [wl_get h8 ha, ce_i h1 h2]
theorem wl_arq {a : Nat} (h1 : 13 ≤ tg a) (h8 : 8 ≤ a) (ha : a < n) : (wl γ n M R)[a - 8]? = some (ph γ a, .inl (gC γ (tg a), ln a, .inr (.inr (.inr (.inr (fun j => rq γ (R a j))))))) := by rw [wl_get h8 ha, ce_q h1]
theorem ix_in {x : Int32} {i N : Nat} (hx : x = nI i) (hi : i < N) (hN : N ≤ 2220) : vp_in x N ∧ x.toNatClampNeg = i := by
  subst hx
  exact ⟨vp_in_nI hi (by omega), nI_clamp (by omega)⟩
theorem wl_sti {a i : Nat} {x : Int32} (h1 : 10 ≤ tg a) (h2 : tg a < 13) (h8 : 8 ≤ a) (ha : a < n) : (wl γ n M R).set (a - 8) (ph γ a, .inl (gC γ (tg a), ln a, .inl (upd (M a) i x))) = wl γ n (u2 M a i x) R := by
  refine wl_set h8 ha ?_ (fun j hj => ce_congr (u2_n _ _ _ hj) rfl)
  rw [ce_i h1 h2, u2_s]
  rfl
theorem wl_stq {a i r : Nat} (h1 : 13 ≤ tg a) (h8 : 8 ≤ a) (ha : a < n) (h0 : r ≠ 0) : (wl γ n M R).set (a - 8) (ph γ a, .inl (gC γ (tg a), ln a, .inr (.inr (.inr (.inr (va_up (fun j => rq γ (R a j)) i (some (ph γ r)))))))) = wl γ n M (u2 R a i r) := by
  refine wl_set h8 ha ?_ (fun j hj => ce_congr rfl (u2_n _ _ _ hj))
  rw [ce_q h1, u2_s]
  congr 7
  funext j
  by_cases hj : j = i
  · simp [va_up, up, hj, rq, h0]
  · simp [va_up, up, hj]
theorem wp_iald {a i : Nat} {x : Int32} (hx : x = nI i) (ht : tg a = 10) (h8 : 8 ≤ a) (hi : i < ln a) (ha : a < n) (hd : decode y.2.1 pc = .ok (.iaload, 1)) (kk : WP γ l y d nE nX (pc + 1) L (.int (M a i) :: S) n M R K) : WP γ l y d nE nX pc L (.int x :: .ref a :: S) n M R K := by
  obtain ⟨hin, hcl⟩ := ix_in hx hi (ln_le a)
  have e := wl_ari (γ := γ) (M := M) (R := R) (a := a) (by omega) (by omega) h8 ha
  rw [ht] at e
  refine fun p e0 R0 s m args below meth c Q H locs ls C0 hret hW h1 h2 hl => va_iald C0.1 C0.2.1 C0.2.2.2.2.2.1.1 hW.1 (a - 8) 0 e rfl hin hd ?_
  rw [hcl]
  exact kk p e0 R0 s m args below meth c Q H locs ls C0 hret hW h1 h2 hl
theorem wp_cald {a i : Nat} {x : Int32} (hx : x = nI i) (ht : tg a = 11) (h8 : 8 ≤ a) (hi : i < ln a) (ha : a < n) (hd : decode y.2.1 pc = .ok (.caload, 1)) (kk : WP γ l y d nE nX (pc + 1) L (.int (M a i) :: S) n M R K) : WP γ l y d nE nX pc L (.int x :: .ref a :: S) n M R K := by
  obtain ⟨hin, hcl⟩ := ix_in hx hi (ln_le a)
  have e := wl_ari (γ := γ) (M := M) (R := R) (a := a) (by omega) (by omega) h8 ha
  rw [ht] at e
  refine fun p e0 R0 s m args below meth c Q H locs ls C0 hret hW h1 h2 hl => va_cald C0.1 C0.2.1 C0.2.2.2.2.2.1.1 hW.1 (a - 8) 1 e rfl hin hd ?_
  rw [hcl]
  exact kk p e0 R0 s m args below meth c Q H locs ls C0 hret hW h1 h2 hl
theorem wp_zald {a i : Nat} {x : Int32} (hx : x = nI i) (ht : tg a = 12) (h8 : 8 ≤ a) (hi : i < ln a) (ha : a < n) (hd : decode y.2.1 pc = .ok (.baload, 1)) (kk : WP γ l y d nE nX (pc + 1) L (.int (M a i) :: S) n M R K) : WP γ l y d nE nX pc L (.int x :: .ref a :: S) n M R K := by
  obtain ⟨hin, hcl⟩ := ix_in hx hi (ln_le a)
  have e := wl_ari (γ := γ) (M := M) (R := R) (a := a) (by omega) (by omega) h8 ha
  rw [ht] at e
  refine fun p e0 R0 s m args below meth c Q H locs ls C0 hret hW h1 h2 hl => va_zald C0.1 C0.2.1 C0.2.2.2.2.2.1.1 hW.1 (a - 8) 2 e rfl hin hd ?_
  rw [hcl]
  exact kk p e0 R0 s m args below meth c Q H locs ls C0 hret hW h1 h2 hl
theorem wp_iast {a i : Nat} {x v : Int32} (hx : x = nI i) (ht : tg a = 10) (h8 : 8 ≤ a) (hi : i < ln a) (ha : a < n) (hd : decode y.2.1 pc = .ok (.iastore, 1)) (kk : WP γ l y d nE nX (pc + 1) L S n (u2 M a i v) R K) : WP γ l y d nE nX pc L (.int v :: .int x :: .ref a :: S) n M R K := by
  obtain ⟨hin, hcl⟩ := ix_in hx hi (ln_le a)
  have e := wl_ari (γ := γ) (M := M) (R := R) (a := a) (by omega) (by omega) h8 ha
  have e2 := wl_sti (γ := γ) (M := M) (R := R) (a := a) (i := i) (x := v) (by omega) (by omega) h8 ha
  rw [ht] at e e2
  refine fun p e0 R0 s m args below meth c Q H locs ls C0 hret hW h1 h2 hl => va_iast C0.1 C0.2.1 C0.2.2.2.2.2.1.1 hW.1 (wl_D γ n M R) hW.2 (a - 8) 0 e rfl hin hd (fun H1 locs1 hP1 _ hS1 => ?_)
  rw [hcl, e2] at hP1
  exact kk p e0 R0 s m args below meth c Q H1 locs1 ls C0 hret ⟨hP1, hS1⟩ h1 h2 hl
theorem wp_cast {a i : Nat} {x v : Int32} (hx : x = nI i) (ht : tg a = 11) (h8 : 8 ≤ a) (hi : i < ln a) (ha : a < n) (hd : decode y.2.1 pc = .ok (.castore, 1)) (kk : WP γ l y d nE nX (pc + 1) L S n (u2 M a i (vp_nar .char v)) R K) : WP γ l y d nE nX pc L (.int v :: .int x :: .ref a :: S) n M R K := by
  obtain ⟨hin, hcl⟩ := ix_in hx hi (ln_le a)
  have e := wl_ari (γ := γ) (M := M) (R := R) (a := a) (by omega) (by omega) h8 ha
  have e2 := wl_sti (γ := γ) (M := M) (R := R) (a := a) (i := i) (x := vp_nar .char v) (by omega) (by omega) h8 ha
  rw [ht] at e e2
  refine fun p e0 R0 s m args below meth c Q H locs ls C0 hret hW h1 h2 hl => va_cast C0.1 C0.2.1 C0.2.2.2.2.2.1.1 hW.1 (wl_D γ n M R) hW.2 (a - 8) 1 e rfl hin hd (fun H1 locs1 hP1 _ hS1 => ?_)
  rw [hcl, e2] at hP1
  exact kk p e0 R0 s m args below meth c Q H1 locs1 ls C0 hret ⟨hP1, hS1⟩ h1 h2 hl
theorem wp_zast {a i : Nat} {x v : Int32} (hx : x = nI i) (ht : tg a = 12) (h8 : 8 ≤ a) (hi : i < ln a) (hv : vp_nar .boolean v = v) (ha : a < n) (hd : decode y.2.1 pc = .ok (.bastore, 1)) (kk : WP γ l y d nE nX (pc + 1) L S n (u2 M a i v) R K) : WP γ l y d nE nX pc L (.int v :: .int x :: .ref a :: S) n M R K := by
  obtain ⟨hin, hcl⟩ := ix_in hx hi (ln_le a)
  have e := wl_ari (γ := γ) (M := M) (R := R) (a := a) (by omega) (by omega) h8 ha
  have e2 := wl_sti (γ := γ) (M := M) (R := R) (a := a) (i := i) (x := v) (by omega) (by omega) h8 ha
  rw [ht] at e e2
  refine fun p e0 R0 s m args below meth c Q H locs ls C0 hret hW h1 h2 hl => va_zast C0.1 C0.2.1 C0.2.2.2.2.2.1.1 hW.1 (wl_D γ n M R) hW.2 (a - 8) 2 e rfl hin hd (fun H1 locs1 hP1 _ hS1 => ?_)
  rw [hcl, hv, e2] at hP1
  exact kk p e0 R0 s m args below meth c Q H1 locs1 ls C0 hret ⟨hP1, hS1⟩ h1 h2 hl
def arC (t : Nat) : Nat := if t = 13 then 4 else if t = 14 then 3 else 0
theorem tys_q {γ : Gm} {t : Nat} (h1 : 13 ≤ t) (h2 : t < 16) : ∃ (k : Nat) (q : vw_C), (tysG γ)[k]? = some (gC γ t, .object q.1) ∧ vwCl[arC t]? = some q := by
  rcases (show t = 13 ∨ t = 14 ∨ t = 15 by omega) with rfl | rfl | rfl
  · exact ⟨3, _, rfl, rfl⟩
  · exact ⟨4, _, rfl, rfl⟩
  · exact ⟨5, _, rfl, rfl⟩
theorem wp_aald {a i : Nat} {x : Int32} (hx : x = nI i) (ht : 13 ≤ tg a ∧ tg a < 16) (hi : i < ln a) (h0 : R a i ≠ 0) (ha : a < n) (hd : decode y.2.1 pc = .ok (.aaload, 1)) (kk : WP γ l y d nE nX (pc + 1) L (.ref (R a i) :: S) n M R K) : WP γ l y d nE nX pc L (.int x :: .ref a :: S) n M R K := by
  obtain ⟨hin, hcl⟩ := ix_in hx hi (ln_le a)
  have h8 := (sh_at (tg_lt ht.2)).2.1 (by omega) ht.2
  have e := wl_arq (γ := γ) (M := M) (R := R) (a := a) ht.1 h8 ha
  obtain ⟨k, q, hk, hq⟩ := tys_q (γ := γ) ht.1 ht.2
  refine fun p e0 R0 s m args below meth c Q H locs ls C0 hret hW h1 h2 hl => va_aldq C0.1 C0.2.1 C0.2.2.2.2.2.1.1 hW.1 (a - 8) k e hk hin hd ?_
  rw [hcl, show va_rf (rq γ (R a i)) = .ref (ph γ (R a i)) by rw [rq, if_neg h0]; rfl]
  exact kk p e0 R0 s m args below meth c Q H locs ls C0 hret hW h1 h2 hl
theorem wp_aast {a i r : Nat} {x : Int32} (hx : x = nI i) (ht : 13 ≤ tg a ∧ tg a < 16) (hi : i < ln a) (hr : tg r = arC (tg a)) (ha : a < n) (hrn : r < n) (hd : decode y.2.1 pc = .ok (.aastore, 1)) (kk : WP γ l y d nE nX (pc + 1) L S n M (u2 R a i r) K) : WP γ l y d nE nX pc L (.ref r :: .int x :: .ref a :: S) n M R K := by
  obtain ⟨hin, hcl⟩ := ix_in hx hi (ln_le a)
  have h8 := (sh_at (tg_lt ht.2)).2.1 (by omega) ht.2
  have e := wl_arq (γ := γ) (M := M) (R := R) (a := a) ht.1 h8 ha
  obtain ⟨k, q, hk, hq⟩ := tys_q (γ := γ) ht.1 ht.2
  have hr7 : tg r < 7 := by rw [hr]; exact cl_lt hq
  have hr8 := (tg_obj (a := r) (by omega)).1
  have e2 := wl_stq (γ := γ) (M := M) (R := R) (a := a) (i := i) (r := r) ht.1 h8 ha (by omega)
  refine fun p e0 R0 s m args below meth c Q H locs ls C0 hret hW h1 h2 hl => va_astq C0.1 C0.2.1 C0.2.2.2.2.2.1.1 hW.1 (wl_D γ n M R) hW.2 (a - 8) k (r - 8) (arC (tg a)) e hk (wl_obj hr (by omega) hrn) hq hin hd (fun H1 locs1 hP1 _ hS1 => ?_)
  rw [hcl, e2] at hP1
  exact kk p e0 R0 s m args below meth c Q H1 locs1 ls C0 hret ⟨hP1, hS1⟩ h1 h2 hl
theorem wp_copy {a b idx i j k : Nat} {x z w : Int32} (hx : x = nI i) (hz : z = nI j) (hw : w = nI k) (hta : tg a = 10) (htb : tg b = 10) (h8a : 8 ≤ a) (h8b : 8 ≤ b) (hi : i + k ≤ ln a) (hj : j + k ≤ ln b) (ha : a < n) (hb : b < n) (h1d : 1 ≤ d) (hS : S.length ≤ 4) (hlk : Cond.methodLink y.1.cls idx arraycopyName ∈ WS)
    (hd : decode y.2.1 pc = .ok (.invokestatic idx, 3)) (kk : WP γ l y d nE nX (pc + 3) L S n (up M b (va_cpy (M a) (M b) i j k)) R K) : WP γ l y d nE nX pc L (.int w :: .int z :: .ref b :: .int x :: .ref a :: S) n M R K := by
  have la := ln_le a
  have lb := ln_le b
  subst hx; subst hz; subst hw
  have ea := wl_ari (γ := γ) (M := M) (R := R) (a := a) (by omega) (by omega) h8a ha
  have eb := wl_ari (γ := γ) (M := M) (R := R) (a := b) (by omega) (by omega) h8b hb
  rw [hta] at ea
  rw [htb] at eb
  have hcat : ∀ T : List Value, (T.map fun v => v.category).sum ≤ 2 * T.length := by
    intro T
    induction T with
    | nil => exact Nat.le_refl _
    | cons v T ih =>
      rw [List.map_cons, List.sum_cons, List.length_cons]
      have := lv_cat v
      omega
  intro p e R0 s m args below meth c Q H locs ls C0 hret hW h1 h2 hl
  have hr0 := C0.2.2.2.2.2.2.1
  refine va_copyi C0.1 C0.2.1 (C0.2.2.1.trans hl.1.symm) C0.2.2.2.1 (C0.2.2.2.2.1 _ hlk) (C0.2.2.2.2.1 _ qw_native) (C0.2.2.2.2.1 _ qw_static) (C0.2.2.2.2.1 _ qw_system) C0.2.2.2.2.2.1.1 hW.1 (wl_D γ n M R) hW.2 (a - 8) (b - 8) 0 0 ea eb rfl rfl rfl (nI_pos (by omega)) (nI_pos (by omega)) (nI_pos (by omega)) (by rw [nI_clamp (by omega), nI_clamp (by omega)]; exact hi) (by rw [nI_clamp (by omega), nI_clamp (by omega)]; exact hj) (fun _ _ => rfl) (by omega) ?_ hd (fun H1 locs1 hP1 _ hS1 => ?_)
  · have h3 := hcat (S.map (pv γ))
    rw [List.length_map] at h3
    have h4 : nativeFrameWords "java/lang/System" "arraycopy" 5 = 7 := by decide +kernel
    omega
  · rw [nI_clamp (by omega), nI_clamp (by omega), nI_clamp (by omega)] at hP1
    have e2 : (wl γ n M R).set (b - 8) (ph γ b, .inl (gC γ 10, ln b, .inl (va_cpy (M a) (M b) i j k))) = wl γ n (up M b (va_cpy (M a) (M b) i j k)) R := by
      refine wl_set h8b hb ?_ (fun j hj => ce_congr (up_n _ _ hj) rfl)
      rw [ce_i (by omega) (by omega), up_s, htb]
    rw [e2] at hP1
    exact kk p e R0 s m args below meth c Q H1 locs1 ls C0 hret ⟨hP1, hS1⟩ h1 h2 hl
end HROWS
