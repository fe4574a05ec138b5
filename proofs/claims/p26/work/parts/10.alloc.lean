/-! NEW CELLS, STATIC TABLES, THE SCRIPT -/
section AROWS
variable {γ : Gm} {l : Launch} {y : Mt} {d nE nX pc n idx : Nat} {L : List (Option Value)} {S : List Value} {M : Mm} {R : Rm} {K : Option Value → Nat → Mm → Rm → Prop}
theorem q_new {q : Nat} {e : va_E} {H1 : Heap} (hP : va_P γ.1 vwCl (wl γ n M R ++ [(q, e)]) H1) (hD : va_D (aN γ) (wl γ n M R ++ [(q, e)])) (h8 : 8 ≤ n) (hu : H1.size ≤ gN γ + (n - 8) + 1) : q = gN γ + (n - 8) := by
  have hl : (wl γ n M R ++ [(q, e)])[n - 8]? = some (q, e) := by
    rw [List.getElem?_append_right (by rw [wl_len]; omega), wl_len, Nat.sub_self]
    rfl
  have h1 := (hP _ _ hl).lt
  have h2 := hD.2 _ _ hl
  have h1 : q < H1.size := h1
  have h2 : gN γ ≤ q := h2
  rcases Nat.lt_or_ge q (gN γ + (n - 8)) with h | h
  · have h3 : (wl γ n M R ++ [(q, e)])[q - gN γ]? = some (gN γ + (q - gN γ), ce γ M R (q - gN γ + 8)) := by
      rw [List.getElem?_append_left (by rw [wl_len]; omega)]
      have h4 := wl_get (γ := γ) (n := n) (M := M) (R := R) (k := q - gN γ + 8) (by omega) (by omega)
      rw [Nat.add_sub_cancel, ph_new γ (by omega), Nat.add_sub_cancel] at h4
      exact h4
    have h5 := hD.1 _ _ _ _ h3 hl (show gN γ + (q - gN γ) = q by omega)
    omega
  · omega
abbrev z0 {α : Type} [OfNat α 0] (f : Nat → Nat → α) (n : Nat) : Nat → Nat → α := up f n (fun _ => 0)
theorem wp_new {ci : Nat} (hcl : ∃ q : vw_C, vwCl[ci]? = some q ∧ Cond.classLink y.1.cls idx q.1 ∈ WS) (ht : tg n = ci) (hnX : n + 1 ≤ nX) (hd : decode y.2.1 pc = .ok (.new idx, 3)) (kk : WP γ l y d nE nX (pc + 3) L (.ref n :: S) (n + 1) (z0 M n) (z0 R n) K) : WP γ l y d nE nX pc L S n M R K := by
  obtain ⟨⟨C, T, N⟩, hq, hlink⟩ := hcl
  obtain ⟨hN, hin, ⟨ty0, hty0, hdf⟩, hnm, hins, hini⟩ := cls_ok hq
  have h7 := cl_lt hq
  obtain ⟨h8, -, hln⟩ := tg_obj (a := n) (by omega)
  have hN : N = cn ci := hN
  intro p e R0 s m args below meth c Q H locs ls C0 hret hW h1 h2 hl
  have hR := C0.2.2.2.2.2.2.1
  have hs := C0.2.2.2.2.2.2.2.1
  have m1 := sl_mono h1
  have m2 := sl_mono hnX
  have e1 : sl (n + 1) = sl n + cn ci := by
    show sl n + ln n = _
    rw [hln, ht]
  refine va_new (ci := ci) (fs := (List.range (cn ci)).map (fv γ (z0 M n) (z0 R n) n)) C0.1 C0.2.1 C0.2.2.2.2.1 hin ty0 hty0 C0.2.2.2.1 (C0.2.2.2.2.1 _ hlink) (C0.2.2.2.2.1 _ hins) (C0.2.2.2.2.1 _ hini) C0.2.2.2.2.2.1.1 hW.1 (wl_D γ n M R) hW.2 (fun q h => Nat.le_trans C0.2.2.2.2.2.1.2.2.2.2.1 h) hq (fun j hj => ?_) (by omega) (by omega) hd (fun q H1 hP1 hD1 hS1 => ?_)
  · rw [hdf j hj, vp_V, List.getD_eq_getElem?_getD, List.getElem?_map, List.getElem?_range (by omega), Option.map_some, Option.getD_some, fv, ht, z0, z0, up_s, up_s, rv, if_pos rfl]
  · refine W_sz fun hu => ?_
    have hqn := q_new hP1 hD1 h8 (by omega)
    subst hqn
    rw [wl_push (M' := z0 M n) (R' := z0 R n) h8 (by rw [ce_o (by omega), hln, ht]) (fun j hj => ce_congr (up_n _ _ hj) (up_n _ _ hj))] at hP1
    have h := kk p e R0 s m args below meth c Q H1 locs ls C0 hret ⟨hP1, hS1⟩ (by omega) hnX hl
    rw [show n - nE + 1 = n + 1 - nE by omega, show sl n - sl nE + N = sl (n + 1) - sl nE by omega]
    rw [List.map_cons, show pv γ (.ref n) = .ref (gN γ + (n - 8)) by rw [pv, ph_new γ h8]] at h
    exact h
/-- a new array of numbers: tag t, its class at the place t - 10 of tysG -/
theorem wp_newa {atype : ArrayType} {ty : FieldType} {t N : Nat} {x : Int32} (hty : newarray.typeOf atype = ty) (h1t : 10 ≤ t) (h2t : t < 13) (hts : (tysG γ)[t - 10]? = some (gC γ t, ty)) (hra : ∀ (s : State) (cA : ClassId), va_RA s cA ty → s.vm.findClass ("[" ++ ty.toString) = some cA) (hdf : defaultValue ty = .int 0) (hcb : componentBytes ty ≤ 4) (harr : Cond.arrayClass (newarray.typeOf atype) ∈ WS) (hx : x = nI N) (ht : tg n = t) (hN : ln n = N) (h8 : 8 ≤ n) (hnX : n + 1 ≤ nX) (hd : decode y.2.1 pc = .ok (.newarray atype, 2))
    (kk : WP γ l y d nE nX (pc + 2) L (.ref n :: S) (n + 1) (z0 M n) (z0 R n) K) : WP γ l y d nE nX pc L (.int x :: S) n M R K := by
  subst hx
  have hN2 := ln_le n
  intro p e R0 s m args below meth c Q H locs ls C0 hret hW h1 h2 hl
  have hR := C0.2.2.2.2.2.2.1
  have hs := C0.2.2.2.2.2.2.2.1
  have m1 := sl_mono h1
  have m2 := sl_mono hnX
  have e1 : sl (n + 1) = sl n + N := by
    show sl n + ln n = _
    rw [hN]
  have hK := C0.2.2.2.2.2.1.1
  have hNb : N * componentBytes ty ≤ 2220 * 4 := Nat.mul_le_mul (by omega) hcb
  refine va_newa (a0 := (N, .inl (fun _ => 0))) C0.1 C0.2.1 (C0.2.2.2.2.1 _ harr) hty hK hW.1 (wl_D γ n M R) hW.2 (fun q h => Nat.le_trans C0.2.2.2.2.2.1.2.2.2.2.1 h) (fun cA => by rw [hdf]; rfl) (nI_pos (by omega)) (nI_clamp (by omega)) (by omega) (by omega) (by omega) hd (fun q cA H1 hK1 hP1 hD1 hS1 => ?_)
  refine W_sz fun hu => ?_
  have hqn := q_new hP1 hD1 h8 (by omega)
  subst hqn
  have hcA : cA = gC γ t := by
    have r1 := hra s _ (hK1.2 6 (cA, ty) rfl).2
    have r2 := hra s _ (hK.2 _ _ hts).2
    exact Option.some.inj (r1.symm.trans r2)
  subst hcA
  rw [wl_push (M' := z0 M n) (R' := z0 R n) h8 (by rw [ce_i (by omega) (by omega), hN, ht, z0, up_s]) (fun j hj => ce_congr (up_n _ _ hj) (up_n _ _ hj))] at hP1
  have h := kk p e R0 s m args below meth c Q H1 locs ls C0 hret ⟨hP1, hS1⟩ (by omega) hnX hl
  rw [show n - nE + 1 = n + 1 - nE by omega, show sl n - sl nE + N = sl (n + 1) - sl nE by omega]
  rw [List.map_cons, show pv γ (.ref n) = .ref (gN γ + (n - 8)) by rw [pv, ph_new γ h8]] at h
  exact h
/-- a new array of references -/
theorem wp_newq {t N : Nat} {x : Int32} {C : String} (h1t : 13 ≤ t) (hts : (tysG γ)[t - 10]? = some (gC γ t, .object C)) (hover : ∀ s : State, KK γ s → va_AO C s) (hlink : Cond.classLink y.1.cls idx C ∈ WS) (hx : x = nI N) (ht : tg n = t) (hN : ln n = N) (h8 : 8 ≤ n) (hnX : n + 1 ≤ nX) (hd : decode y.2.1 pc = .ok (.anewarray idx, 3))
    (kk : WP γ l y d nE nX (pc + 3) L (.ref n :: S) (n + 1) (z0 M n) (z0 R n) K) : WP γ l y d nE nX pc L (.int x :: S) n M R K := by
  subst hx
  have hN2 := ln_le n
  intro p e R0 s m args below meth c Q H locs ls C0 hret hW h1 h2 hl
  have hR := C0.2.2.2.2.2.2.1
  have hs := C0.2.2.2.2.2.2.2.1
  have m1 := sl_mono h1
  have m2 := sl_mono hnX
  have e1 : sl (n + 1) = sl n + N := by
    show sl n + ln n = _
    rw [hN]
  have hK := C0.2.2.2.2.2.1.1
  refine va_newq (N' := N) C0.1 C0.2.1 C0.2.2.2.1 (C0.2.2.2.2.1 _ hlink) (hover s C0.2.2.2.2.2.1) hK hW.1 (wl_D γ n M R) hW.2 (fun q h => Nat.le_trans C0.2.2.2.2.2.1.2.2.2.2.1 h) (nI_pos (by omega)) (nI_clamp (by omega)) (by omega) (by omega) (by omega) hd (fun q cA H1 hK1 hP1 hD1 hS1 => ?_)
  refine W_sz fun hu => ?_
  have hqn := q_new hP1 hD1 h8 (by omega)
  subst hqn
  have hcA : cA = gC γ t := by
    obtain ⟨_, _, -, -, -, r1⟩ := (hK1.2 6 (cA, .object C) rfl).2
    obtain ⟨_, _, -, -, -, r2⟩ := (hK.2 _ _ hts).2
    exact Option.some.inj (r1.symm.trans r2)
  subst hcA
  rw [wl_push (M' := z0 M n) (R' := z0 R n) h8 (by rw [ce_q (by omega), hN, ht, z0, up_s]; rfl) (fun j hj => ce_congr (up_n _ _ hj) (up_n _ _ hj))] at hP1
  have h := kk p e R0 s m args below meth c Q H1 locs ls C0 hret ⟨hP1, hS1⟩ (by omega) hnX hl
  rw [show n - nE + 1 = n + 1 - nE by omega, show sl n - sl nE + N = sl (n + 1) - sl nE by omega]
  rw [List.map_cons, show pv γ (.ref n) = .ref (gN γ + (n - 8)) by rw [pv, ph_new γ h8]] at h
  exact h
theorem wp_objInit {a : Nat} (hlk : Cond.methodLink y.1.cls idx Lib.objectInit ∈ WS) (hi : Cond.instanceMethod Lib.objectInit ∈ WS) (hc : Cond.code Lib.objectInit ⟨#[0xb1]⟩ 1 none ∈ WS) (h1d : 1 ≤ d) (hS : S.length ≤ 4) (hd : decode y.2.1 pc = .ok (.invokespecial idx, 3)) (kk : WP γ l y d nE nX (pc + 3) L S n M R K) : WP γ l y d nE nX pc L (.ref a :: S) n M R K := by
  intro p e R0 s m args below meth c Q H locs ls C0 hret hW h1 h2 hl
  have hR := C0.2.2.2.2.2.2.1
  have hts := C0.2.2.2.2.1
  have h3 := st_room (γ := γ) (m := m) (pc := pc) (ls := ls) (st := (Value.ref a :: S).map (pv γ)) hS
  exact W.objInit C0.1 C0.2.1 C0.2.2.2.1 (hts _ hlk) (hts _ hi) (hts _ hc) rfl (hl.1.trans C0.2.2.1.symm) rfl hd (by omega) (by omega) (kk p e R0 s m args below meth c Q H locs ls C0 hret hW h1 h2 hl)
theorem stN_eq {γ : Gm} {s : State} {k : Nat} (hK : KK γ s) (h1 : 1 ≤ k) (h2 : k < 4) : StK γ s k := hK.2.2.2.1 k h1 h2
theorem wp_getst {k : Nat} (h1k : 1 ≤ k) (h2k : k < 4) {host : String} (hlk : Cond.fieldLinkNest y.1.cls idx RX5 (stN k) "[I" host ∈ NW) (hd : decode y.2.1 pc = .ok (.getstatic idx, 3)) (kk : WP γ l y d nE nX (pc + 3) L (.ref k :: S) n M R K) : WP γ l y d nE nX pc L S n M R K := by
  intro p e R0 s m args below meth c Q H locs ls C0 hret hW h1 h2 hl
  exact va_getsN C0.1 C0.2.1 (stN_eq C0.2.2.2.2.2.1 h1k h2k).1 hW.2 C0.2.2.2.1 (nest_use C0.2.2.2.2.2.1 hlk args) (fun _ h => h) hd (kk p e R0 s m args below meth c Q H locs ls C0 hret hW h1 h2 hl)
theorem wp_stld {k i : Nat} {x : Int32} (hx : x = nI i) (h1k : 1 ≤ k) (h2k : k < 4) (hi : i < 3) (hd : decode y.2.1 pc = .ok (.iaload, 1)) (kk : WP γ l y d nE nX (pc + 1) L (.int (stV k i) :: S) n M R K) : WP γ l y d nE nX pc L (.int x :: .ref k :: S) n M R K := by
  obtain ⟨hin, hcl⟩ := ix_in hx hi (by omega)
  intro p e R0 s m args below meth c Q H locs ls C0 hret hW h1 h2 hl
  exact va_ti C0.1 C0.2.1 (stN_eq C0.2.2.2.2.2.1 h1k h2k).2.1 hW.2 hin (by rw [hcl]; rfl) hd (kk p e R0 s m args below meth c Q H locs ls C0 hret hW h1 h2 hl)
theorem wp_slen (hd : decode y.2.1 pc = .ok (.arraylength, 1)) (kk : WP γ l y d nE nX (pc + 1) L (.int (nI γ.2.2.2.2.1) :: S) n M R K) : WP γ l y d nE nX pc L (.ref 4 :: S) n M R K := by
  intro p e R0 s m args below meth c Q H locs ls C0 hret hW h1 h2 hl
  have h := C0.2.2.2.2.2.1.2.2.2.2.2
  exact va_slen C0.1 C0.2.1 h.1 h.2.1 h.2.2 hW.2 hd (kk p e R0 s m args below meth c Q H locs ls C0 hret hW h1 h2 hl)
theorem wp_sld {i : Nat} {x : Int32} (hx : x = nI i) (hi : i < γ.2.2.2.2.1) (hL : γ.2.2.2.2.1 < 2 ^ 31) (hd : decode y.2.1 pc = .ok (.iaload, 1)) (kk : WP γ l y d nE nX (pc + 1) L (.int (γ.2.2.2.2.2 i) :: S) n M R K) : WP γ l y d nE nX pc L (.int x :: .ref 4 :: S) n M R K := by
  subst hx
  intro p e R0 s m args below meth c Q H locs ls C0 hret hW h1 h2 hl
  have h := C0.2.2.2.2.2.1.2.2.2.2.2
  refine va_sld C0.1 C0.2.1 h.1 h.2.1 h.2.2 hW.2 (vp_in_nI hi hL) hd ?_
  rw [nI_clamp (by omega)]
  exact kk p e R0 s m args below meth c Q H locs ls C0 hret hW h1 h2 hl
theorem wp_castI {a : Nat} (hlk : Cond.classLink y.1.cls idx "[I" ∈ WS) (ht : tg a = 10) (h8 : 8 ≤ a) (ha : a < n) (hd : decode y.2.1 pc = .ok (.checkcast idx, 3)) (kk : WP γ l y d nE nX (pc + 3) L (.ref a :: S) n M R K) : WP γ l y d nE nX pc L (.ref a :: S) n M R K := by
  intro p e R0 s m args below meth c Q H locs ls C0 hret hW h1 h2 hl
  have e1 := wl_ari (γ := γ) (M := M) (R := R) (a := a) (by omega) (by omega) h8 ha
  rw [ht] at e1
  have hnm : s.vm.findClass "[I" = some (gC γ 10) := (C0.2.2.2.2.2.1.1.2 0 _ rfl).2
  exact va_castA C0.1 C0.2.1 C0.2.2.2.1 (C0.2.2.2.2.1 _ hlk) hW.1 (a - 8) e1 hnm hd (kk p e R0 s m args below meth c Q H locs ls C0 hret hW h1 h2 hl)
set_option maxHeartbeats 1000000 in
theorem wp_clone (hlk : Cond.methodLink y.1.cls idx ⟨"[I", "clone", "()Ljava/lang/Object;"⟩ ∈ WS) (hsm : Cond.sameMethod "[I" "java/lang/Object" "clone" "()Ljava/lang/Object;" ∈ WS) (hnat : Cond.native ⟨"java/lang/Object", "clone", "()Ljava/lang/Object;"⟩ ∈ WS) (hinst : Cond.instanceMethod ⟨"java/lang/Object", "clone", "()Ljava/lang/Object;"⟩ ∈ WS) (hsel : Cond.selects "[I" ⟨"[I", "clone", "()Ljava/lang/Object;"⟩ ⟨"java/lang/Object", "clone", "()Ljava/lang/Object;"⟩ ∈ WS) (hcl : Cond.castable "[I" "java/lang/Cloneable" ∈ NW)
    (ht : tg n = 10) (hN : ln n = 3) (h8 : 8 ≤ n) (hnX : n + 1 ≤ nX) (h1d : 1 ≤ d) (hS : S.length ≤ 4) (hd : decode y.2.1 pc = .ok (.invokevirtual idx, 3)) (kk : WP γ l y d nE nX (pc + 3) L (.ref n :: S) (n + 1) (up M n (stV 1)) (z0 R n) K) : WP γ l y d nE nX pc L (.ref 1 :: S) n M R K := by
  intro p e R0 s m args below meth c Q H locs ls C0 hret hW h1 h2 hl
  have hR := C0.2.2.2.2.2.2.1
  have hs := C0.2.2.2.2.2.2.2.1
  have hts := C0.2.2.2.2.1
  have hKK := C0.2.2.2.2.2.1
  have m1 := sl_mono h1
  have m2 := sl_mono hnX
  have e1 : sl (n + 1) = sl n + 3 := by
    show sl n + ln n = _
    rw [hN]
  obtain ⟨-, ⟨cell, g1, g2, g3, g4, -, g6, g7⟩, cell', k1, k2, k3⟩ := stN_eq hKK (k := 1) (by omega) (by omega)
  cases g1.symm.trans k1
  have hnm : s.vm.findClass "[I" = some (gC γ 10) := (hKK.1.2 0 _ rfl).2
  obtain ⟨c0, t0', f1, f2, f3⟩ := Cond.castable_spec (va_Nw.use (A := args) rfl (hKK.2.1 _ hcl))
  cases hnm.symm.trans f1
  have hcellE : ({ cls := cell.cls, slots := cell.slots } : Cell) = vp_cell (gC γ 10) (3, .inl (stV 1)) := by
    rw [vp_cell_i, k2]
    unfold arrV
    congr 1
    apply Array.ext
    · rw [k3, Array.size_ofFn]
    · intro i hi1 hi2
      have h9 := g6 i (by omega)
      rw [Array.getElem?_eq_getElem hi1] at h9
      rw [Option.some.inj h9, Array.getElem_ofFn]
  refine W_sz fun hu => ?_
  have hHs := wd_size hW hs.1 hs.2 h1 hu
  intro T hT X
  have hcellT : T.heap[ph γ 1]? = some cell := by
    rw [hT, hW.2.2.1 _ (Array.getElem?_eq_some_iff.mp g1).1 g7]
    exact g1
  obtain ⟨-, kA, hkA, comp, hkind⟩ := State.isArrayOf_alike X.warmed.alike g2
  obtain ⟨hobj, kS, hkS, compS, hkindS⟩ := g2
  have h3 := st_room (γ := γ) (m := m) (pc := pc) (ls := ls) (st := (Value.ref 1 :: S).map (pv γ)) hS
  obtain ⟨vm', X', st⟩ := X.cloneArray C0.1 C0.2.2.2.1 (hts _ hlk) (hts _ hsm) (hts _ hnat) (hts _ hinst) (hts _ hsel) (a := ph γ 1) (cell := cell) hcellT hobj g3 (by rw [k2]; exact hnm) f2 (by rw [k2]; exact f3)
    (fun i v hv => by
      have hi := (Array.getElem?_eq_some_iff.mp hv).1
      have h9 := g6 i (by omega)
      cases h9.symm.trans hv
      have hk' : T.vm.classes[cell.cls]? = some kA := hkA
      simp [State.fitsSlot, State.slotType?, hk', hkind, fits])
    (g := F0 m pc ls ((Value.ref 1 :: S).map (pv γ))) rfl (hl.1.trans C0.2.2.1.symm) (rest := S.map (pv γ)) rfl (by rw [C0.2.1]; exact hd) (by omega) (by omega) (by omega) (by omega) (hloader := Vm.clonesLoader_of_array hkS hkindS)
  rw [hcellE, k3] at X'
  generalize hH1 : H.push (vp_cell (gC γ 10) (3, .inl (stV 1))) = H1
  have z1 : H1.size = H.size + 1 := by rw [← hH1, Array.size_push]
  have w1 : H1[H.size]? = some (vp_cell (gC γ 10) (3, .inl (stV 1))) := by rw [← hH1, Array.getElem?_push_size]
  have o1 : ∀ q : Nat, q < H.size → H1[q]? = H[q]? := fun q hq => by rw [← hH1, Array.getElem?_push, if_neg (Nat.ne_of_lt hq)]
  have hP1 : va_P γ.1 vwCl (wl γ n M R ++ [(gN γ + (n - 8), .inl (gC γ 10, 3, .inl (stV 1)))]) H1 := (hW.1.kept (fun k y hy => o1 y.1 ((hW.1 k y hy).lt))).app (fun k y hy => by
    have hz : k < 1 := (List.getElem?_eq_some_iff.mp hy).1
    rw [show k = 0 by omega] at hy
    cases hy
    show H1[gN γ + (n - 8)]? = _
    rw [← hHs]
    exact w1)
  rw [wl_push (M' := up M n (stV 1)) (R' := z0 R n) h8 (by rw [ce_i (by omega) (by omega), hN, ht, up_s]) (fun j hj => ce_congr (up_n _ _ hj) (up_n _ _ hj))] at hP1
  have h := kk p e R0 s m args below meth c Q H1 locs ls C0 hret ⟨hP1, Nat.le_trans hW.2.1 (by omega), fun y h1 h2 => (o1 y (Nat.lt_of_lt_of_le h1 hW.2.1)).trans (hW.2.2.1 y h1 h2), hW.2.2.2⟩ (by omega) hnX hl
  rw [show n + 1 - nE = n - nE + 1 by omega, show sl (n + 1) - sl nE = sl n - sl nE + 3 by omega] at h
  rw [List.map_cons, show pv γ (.ref n) = .ref (gN γ + (n - 8)) by rw [pv, ph_new γ h8]] at h
  obtain ⟨t, b1, b2⟩ := h ((T.setVm vm').pushCell (vp_cell (gC γ 10) (3, .inl (stV 1)))) (by rw [← hH1, ← hT]; rfl) X'
  refine ⟨t, st t ?_, b2⟩
  rw [hcellE, hT, hHs]
  exact b1
end AROWS
