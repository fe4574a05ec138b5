/-! CALLS -/
def CaZ (z : Mt) (np : Nat) : Prop := Cond.initialized z.1.cls ∈ WS ∧ Cond.code z.1 z.2.1 z.2.2.1 z.2.2.2 ∈ WS ∧ (z.1.cls ≠ "java/lang/invoke/MethodHandle" ∧ z.1.cls ≠ "java/lang/invoke/VarHandle" ∧ (parseMethodDescriptor z.1.desc).map (fun d => d.parameters.length) = some np) ∧ plainFor z.1 = true ∧ z.2.2.1 ≤ 15
def CaV (own : String) (idx : Nat) (z : Mt) (np ci : Nat) : Prop := (Cond.methodLink own idx z.1 ∈ WS ∧ Cond.instanceMethod z.1 ∈ WS ∧ Cond.selects z.1.cls z.1 z.1 ∈ WS) ∧ CaZ z np ∧ ∃ q : vw_C, vwCl[ci]? = some q ∧ q.1 = z.1.cls
def CaS (own : String) (idx : Nat) (z : Mt) (np : Nat) : Prop := (Cond.methodLink own idx z.1 ∈ WS ∧ Cond.static z.1 ∈ WS) ∧ CaZ z np
def CaSN (own : String) (idx : Nat) (z : Mt) (np : Nat) : Prop := (∃ host : String, Cond.methodLinkNest own idx z.1 host ∈ NW) ∧ Cond.static z.1 ∈ WS ∧ CaZ z np
def CaI (own : String) (idx : Nat) (z : Mt) : Prop := (Cond.methodLink own idx z.1 ∈ WS ∧ Cond.instanceMethod z.1 ∈ WS) ∧ z.1.name = "<init>" ∧ z.2.2.2 = none ∧ CaZ z 0
def CaIN (own : String) (idx : Nat) (z : Mt) : Prop := (∃ host : String, Cond.methodLinkNest own idx z.1 host ∈ NW) ∧ Cond.instanceMethod z.1 ∈ WS ∧ z.1.name = "<init>" ∧ z.2.2.2 = none ∧ CaZ z 0
theorem nest_tab {w : Cond} (h : nestW w = true) : w.onTables = true := by
  cases w <;> first | rfl | exact Bool.noConfusion h
theorem nest_use {γ : Gm} {s : State} (hK : KK γ s) {w : Cond} (h : w ∈ NW) (args : Array Value) : w.before args s = true := va_Nw.use (nest_tab (List.mem_filter.mp h).2) (hK.2.1 w h)
theorem good_z {z : Mt} (h : Cond.code z.1 z.2.1 z.2.2.1 z.2.2.2 ∈ WS) : GoodIn WS (Cond.code z.1 z.2.1 z.2.2.1 z.2.2.2 :: WS) := by
  intro w hw
  have hw2 : w ∈ WS := by
    rcases List.mem_cons.mp hw with rfl | h1
    · exact h
    · exact h1
  exact ⟨hw2, WS_good hw2⟩
theorem cat_sum : ∀ T : List Value, (T.map fun v => v.category).sum ≤ 2 * T.length := by
  intro T
  induction T with
  | nil => exact Nat.le_refl _
  | cons v T ih =>
    rw [List.map_cons, List.sum_cons, List.length_cons]
    have := lv_cat v
    omega
section CROWS
variable {γ : Gm} {l : Launch} {y z : Mt} {d dz nE nX pc n n' np idx : Nat} {L : List (Option Value)} {S As : List Value} {M : Mm} {R : Rm} {K : Option Value → Nat → Mm → Rm → Prop}
abbrev kAft (γ : Gm) (l : Launch) (y : Mt) (d nE nX pc : Nat) (L : List (Option Value)) (S : List Value) (K : Option Value → Nat → Mm → Rm → Prop) : Option Value → Nat → Mm → Rm → Prop := fun r n1 M1 R1 => WP γ l y d nE nX (pc + 3) L (r.toList ++ S) n1 M1 R1 K
theorem st_room {m : MethodId} {pc : Nat} {ls : Array Slot} {st : List Value} (hS : S.length ≤ 4) : 2 * (F0 m pc ls st).monitorRoom + ((S.map (pv γ)).map fun v => v.category).sum ≤ 8 := by
  have h := cat_sum (S.map (pv γ))
  rw [List.length_map] at h
  exact lv_room (by omega)
/-- what comes behind a call -/
theorem call_go {p : Program} {e : Env} {R0 : Room} {s : State} {m : MethodId} {args : Array Value} {below : List Frame} {meth : Method} {c : Code} {H : Heap} {locs : List Loc} {Q : State → Prop} {ls : Array Slot} {st0 : List Value} {a : Array Value}
    (C0 : Cx γ y d nE nX p R0 s m args meth c) (hret : ∀ (pc' : Nat) (v : Option Value) (M' : Mm) (R' : Rm) (H' : Heap) (locs' : List Loc) (ls' : Array Slot), retOk y pc' v → Wd γ nX M' R' s H' locs' → K v nX M' R' →
      W p l e R0 s m args below meth c H' locs' (nX - nE) (sl nX - sl nE) Q (F0 m pc' ls' (v.map (pv γ)).toList)) (h1 : nE ≤ n) (hn : n ≤ n') (hnX : n' ≤ nX) (hl : lvh γ ls y.2.2.1 L) (hS : va_S (aN γ) s.heap H locs)
    (hr : va_Run p l e R0 s m args below meth c H locs (n - nE) (sl n - sl nE) (n' - n) (sl n' - sl n) (F0 m pc ls st0) (S.map (pv γ)) (QcW γ n' (kAft γ l y d nE nX pc L S K) a) (aN γ)) :
    W p l e R0 s m args below meth c H locs (n - nE) (sl n - sl nE) Q (F0 m pc ls st0) := by
  refine call_fin hr hS fun r M' R' H1 locs1 hK hW => ?_
  have hsl1 := sl_mono h1
  have hsl2 := sl_mono hn
  have h := hK p e R0 s m args below meth c Q H1 locs1 ls C0 hret hW (by omega) hnX hl
  rw [show n - nE + (n' - n) = n' - nE by omega, show sl n - sl nE + (sl n' - sl n) = sl n' - sl nE by omega]
  rw [List.map_append] at h
  cases r with
  | none => exact h
  | some v => exact h
theorem room_z {R0 : Room} {s : State} (hR : d ≤ R0.frames ∧ 34 * d ≤ R0.locals ∧ nX - nE ≤ R0.cells ∧ sl nX - sl nE ≤ R0.slots) (hdz : dz + 1 ≤ d) (hm : z.2.2.1 ≤ 15) : (rmW dz n n').frames + 1 ≤ R0.frames ∧ 8 + (z.2.2.1 + 11) + (rmW dz n n').locals ≤ R0.locals := by
  show dz + 1 ≤ R0.frames ∧ 8 + (z.2.2.1 + 11) + 34 * dz ≤ R0.locals
  omega
theorem room_c {R0 : Room} (hR : d ≤ R0.frames ∧ 34 * d ≤ R0.locals ∧ nX - nE ≤ R0.cells ∧ sl nX - sl nE ≤ R0.slots) (h1 : nE ≤ n) (hn : n ≤ n') (hnX : n' ≤ nX) : n - nE + (n' - n) ≤ R0.cells ∧ sl n - sl nE + (sl n' - sl n) ≤ R0.slots := by
  have hsl1 := sl_mono h1
  have hsl2 := sl_mono hn
  have hsl3 := sl_mono hnX
  omega
theorem wp_callV {b ci : Nat} (hc : CaV y.1.cls idx z np ci) (hd : decode y.2.1 pc = .ok (.invokevirtual idx, 3)) (hnp : As.length = np) (hiL : (iL As).length + 1 ≤ z.2.2.1) (hdz : dz + 1 ≤ d) (ht : tg b = ci) (hb : b < n) (hS : S.length ≤ 4) (hn : n ≤ n') (hnX : n' ≤ nX)
    (kk : CL γ l z dz n n' (.ref b :: As) M R (kAft γ l y d nE nX pc L S K)) : WP γ l y d nE nX pc L (As.reverse ++ .ref b :: S) n M R K := by
  obtain ⟨⟨w1, w2, w3⟩, ⟨z1, z2, z3, z4, z5⟩, q, hq, hqc⟩ := hc
  intro p e R0 s m args below meth c Q H locs ls C0 hret hW h1 h2 hl
  refine W_sz fun hu => ?_
  have hHs := wd_size hW C0.2.2.2.2.2.2.2.1.1 C0.2.2.2.2.2.2.2.1.2 h1 hu
  have h8 := C0.2.2.2.2.2.2.2.1.1
  have hts := C0.2.2.2.2.1
  have hM := met_of (z := z) (As := .ref b :: As) z4 hn (by show (some _ :: iL As).length ≤ _; rw [List.length_cons]; exact hiL) kk
  have hR := C0.2.2.2.2.2.2.1
  refine call_go C0 hret h1 hn hnX hl hW.2 (va_runV (As := As.map (pv γ)) (n := np) ⟨C0.1, C0.2.1, C0.2.2.1, C0.2.2.2.1, hts⟩ hM
    ⟨callB_of np hts (good_z z2) rfl rfl rfl (hts _ z1) (hts _ w1) z3 (room_z (s := s) hR hdz z5), hts _ w2, hts _ w3⟩
    ⟨pcW_blind, by rw [← hqc]; exact va_recv C0.2.2.2.2.2.1.1 hW.1 hq (wl_obj (γ := γ) (M := M) (R := R) ht (cl_lt hq) hb), pcW_at C0.2.2.2.2.2.1 (by omega) hHs hW⟩ rfl (by rw [List.length_map]; exact hnp) hl.1 ?_ (st_room hS) hd (room_c hR h1 hn hnX))
  show ((As.reverse ++ .ref b :: S).map (pv γ)) = _
  rw [List.map_append, List.map_reverse]
  rfl
theorem wp_callS (hc : CaS y.1.cls idx z np) (hd : decode y.2.1 pc = .ok (.invokestatic idx, 3)) (hnp : As.length = np) (hiL : (iL As).length ≤ z.2.2.1) (hdz : dz + 1 ≤ d) (hS : S.length ≤ 4) (hn : n ≤ n') (hnX : n' ≤ nX)
    (kk : CL γ l z dz n n' As M R (kAft γ l y d nE nX pc L S K)) : WP γ l y d nE nX pc L (As.reverse ++ S) n M R K := by
  obtain ⟨⟨w1, w2⟩, z1, z2, z3, z4, z5⟩ := hc
  intro p e R0 s m args below meth c Q H locs ls C0 hret hW h1 h2 hl
  refine W_sz fun hu => ?_
  have hHs := wd_size hW C0.2.2.2.2.2.2.2.1.1 C0.2.2.2.2.2.2.2.1.2 h1 hu
  have h8 := C0.2.2.2.2.2.2.2.1.1
  have hts := C0.2.2.2.2.1
  have hM := met_of (z := z) (As := As) z4 hn hiL kk
  have hR := C0.2.2.2.2.2.2.1
  refine call_go C0 hret h1 hn hnX hl hW.2 (va_runS (As := As.map (pv γ)) (n := np) ⟨C0.1, C0.2.1, C0.2.2.1, C0.2.2.2.1, hts⟩ hM
    ⟨callB_of np hts (good_z z2) rfl rfl rfl (hts _ z1) (hts _ w1) z3 (room_z (s := s) hR hdz z5), hts _ w2⟩
    ⟨pcW_blind, pcW_at C0.2.2.2.2.2.1 (by omega) hHs hW⟩ rfl (by rw [List.length_map]; exact hnp) hl.1 ?_ (st_room hS) hd (room_c hR h1 hn hnX))
  show ((As.reverse ++ S).map (pv γ)) = _
  rw [List.map_append, List.map_reverse]
theorem wp_callSN (hc : CaSN y.1.cls idx z np) (hd : decode y.2.1 pc = .ok (.invokestatic idx, 3)) (hnp : As.length = np) (hiL : (iL As).length ≤ z.2.2.1) (hdz : dz + 1 ≤ d) (hS : S.length ≤ 4) (hn : n ≤ n') (hnX : n' ≤ nX)
    (kk : CL γ l z dz n n' As M R (kAft γ l y d nE nX pc L S K)) : WP γ l y d nE nX pc L (As.reverse ++ S) n M R K := by
  obtain ⟨⟨host, w1⟩, w2, z1, z2, z3, z4, z5⟩ := hc
  intro p e R0 s m args below meth c Q H locs ls C0 hret hW h1 h2 hl
  refine W_sz fun hu => ?_
  have hHs := wd_size hW C0.2.2.2.2.2.2.2.1.1 C0.2.2.2.2.2.2.2.1.2 h1 hu
  have h8 := C0.2.2.2.2.2.2.2.1.1
  have hts := C0.2.2.2.2.1
  have hM := met_of (z := z) (As := As) z4 hn hiL kk
  have hR := C0.2.2.2.2.2.2.1
  refine call_go C0 hret h1 hn hnX hl hW.2 (va_runSN (As := As.map (pv γ)) (n := np) ⟨C0.1, C0.2.1, C0.2.2.1, C0.2.2.2.1, hts⟩ hM
    ⟨va_cnB np hts (good_z z2) rfl rfl rfl (C0.2.2.2.2.2.1.2.1 _ w1) (hts _ z1) z3 (room_z (s := s) hR hdz z5), hts _ w2, trivial⟩
    ⟨pcW_blind, pcW_at C0.2.2.2.2.2.1 (by omega) hHs hW⟩ rfl (by rw [List.length_map]; exact hnp) hl.1 ?_ (st_room hS) hd (room_c hR h1 hn hnX))
  show ((As.reverse ++ S).map (pv γ)) = _
  rw [List.map_append, List.map_reverse]
theorem wp_callI {b : Nat} (hc : CaI y.1.cls idx z) (hd : decode y.2.1 pc = .ok (.invokespecial idx, 3)) (hiL : 1 ≤ z.2.2.1) (hdz : dz + 1 ≤ d) (hS : S.length ≤ 4) (hn : n ≤ n') (hnX : n' ≤ nX)
    (kk : CL γ l z dz n n' [.ref b] M R (kAft γ l y d nE nX pc L S K)) : WP γ l y d nE nX pc L (.ref b :: S) n M R K := by
  obtain ⟨⟨w1, w2⟩, hnm, hr, z1, z2, z3, z4, z5⟩ := hc
  intro p e R0 s m args below meth c Q H locs ls C0 hret hW h1 h2 hl
  refine W_sz fun hu => ?_
  have hHs := wd_size hW C0.2.2.2.2.2.2.2.1.1 C0.2.2.2.2.2.2.2.1.2 h1 hu
  have h8 := C0.2.2.2.2.2.2.2.1.1
  have hts := C0.2.2.2.2.1
  have hM := met_of (z := z) (As := [.ref b]) z4 hn hiL kk
  have hR := C0.2.2.2.2.2.2.1
  have hg := good_z z2
  rw [hr] at hM hg
  exact call_go C0 hret h1 hn hnX hl hW.2 (va_runI (As := []) (n := 0) ⟨C0.1, C0.2.1, C0.2.2.1, C0.2.2.2.1, hts⟩ hM
    ⟨callB_of 0 hts hg rfl rfl rfl (hts _ z1) (hts _ w1) z3 (room_z (s := s) hR hdz z5), hnm, hts _ w2⟩
    ⟨pcW_blind, pcW_at (As := [.ref b]) C0.2.2.2.2.2.1 (by omega) hHs hW⟩ rfl rfl hl.1 rfl (st_room hS) hd (room_c hR h1 hn hnX))
theorem wp_callIN {b : Nat} (hc : CaIN y.1.cls idx z) (hd : decode y.2.1 pc = .ok (.invokespecial idx, 3)) (hiL : 1 ≤ z.2.2.1) (hdz : dz + 1 ≤ d) (hS : S.length ≤ 4) (hn : n ≤ n') (hnX : n' ≤ nX)
    (kk : CL γ l z dz n n' [.ref b] M R (kAft γ l y d nE nX pc L S K)) : WP γ l y d nE nX pc L (.ref b :: S) n M R K := by
  obtain ⟨⟨host, w1⟩, w2, hnm, hr, z1, z2, z3, z4, z5⟩ := hc
  intro p e R0 s m args below meth c Q H locs ls C0 hret hW h1 h2 hl
  refine W_sz fun hu => ?_
  have hHs := wd_size hW C0.2.2.2.2.2.2.2.1.1 C0.2.2.2.2.2.2.2.1.2 h1 hu
  have h8 := C0.2.2.2.2.2.2.2.1.1
  have hts := C0.2.2.2.2.1
  have hM := met_of (z := z) (As := [.ref b]) z4 hn hiL kk
  have hR := C0.2.2.2.2.2.2.1
  have hg := good_z z2
  rw [hr] at hM hg
  exact call_go C0 hret h1 hn hnX hl hW.2 (va_runIN (As := []) (n := 0) ⟨C0.1, C0.2.1, C0.2.2.1, C0.2.2.2.1, hts⟩ hM
    ⟨va_cnB 0 hts hg rfl rfl rfl (C0.2.2.2.2.2.1.2.1 _ w1) (hts _ z1) z3 (room_z (s := s) hR hdz z5), hnm, hts _ w2⟩
    ⟨pcW_blind, pcW_at (As := [.ref b]) C0.2.2.2.2.2.1 (by omega) hHs hW⟩ rfl rfl hl.1 rfl (st_room hS) hd (room_c hR h1 hn hnX))
end CROWS
/-! calls of methods with many locals -/
def CaZB (z : Mt) (np : Nat) : Prop := Cond.initialized z.1.cls ∈ WS ∧ Cond.code z.1 z.2.1 z.2.2.1 z.2.2.2 ∈ WS ∧ (z.1.cls ≠ "java/lang/invoke/MethodHandle" ∧ z.1.cls ≠ "java/lang/invoke/VarHandle" ∧ (parseMethodDescriptor z.1.desc).map (fun d => d.parameters.length) = some np) ∧ plainFor z.1 = true
def CaSB (own : String) (idx : Nat) (z : Mt) (np : Nat) : Prop := (Cond.methodLink own idx z.1 ∈ WS ∧ Cond.static z.1 ∈ WS) ∧ CaZB z np
section BROWS
variable {γ : Gm} {l : Launch} {y z : Mt} {d dz nE nX pc n n' np idx : Nat} {L : List (Option Value)} {S As : List Value} {M : Mm} {R : Rm} {K : Option Value → Nat → Mm → Rm → Prop}
theorem room_zB {R0 : Room} {s : State} (hR : d ≤ R0.frames ∧ 34 * d ≤ R0.locals ∧ nX - nE ≤ R0.cells ∧ sl nX - sl nE ≤ R0.slots) (hdz : dz + 1 ≤ d) (hm : 19 + z.2.2.1 + 34 * dz ≤ 34 * d) : (rmW dz n n').frames + 1 ≤ R0.frames ∧ 8 + (z.2.2.1 + 11) + (rmW dz n n').locals ≤ R0.locals := by
  show dz + 1 ≤ R0.frames ∧ 8 + (z.2.2.1 + 11) + 34 * dz ≤ R0.locals
  omega
theorem wp_callSB (hc : CaSB y.1.cls idx z np) (hd : decode y.2.1 pc = .ok (.invokestatic idx, 3)) (hnp : As.length = np) (hiL : (iL As).length ≤ z.2.2.1) (hdz : dz + 1 ≤ d) (hml : 19 + z.2.2.1 + 34 * dz ≤ 34 * d) (hS : S.length ≤ 4) (hn : n ≤ n') (hnX : n' ≤ nX)
    (kk : CL γ l z dz n n' As M R (kAft γ l y d nE nX pc L S K)) : WP γ l y d nE nX pc L (As.reverse ++ S) n M R K := by
  obtain ⟨⟨w1, w2⟩, z1, z2, z3, z4⟩ := hc
  intro p e R0 s m args below meth c Q H locs ls C0 hret hW h1 h2 hl
  refine W_sz fun hu => ?_
  have hHs := wd_size hW C0.2.2.2.2.2.2.2.1.1 C0.2.2.2.2.2.2.2.1.2 h1 hu
  have h8 := C0.2.2.2.2.2.2.2.1.1
  have hts := C0.2.2.2.2.1
  have hM := met_of (z := z) (As := As) z4 hn hiL kk
  have hR := C0.2.2.2.2.2.2.1
  refine call_go C0 hret h1 hn hnX hl hW.2 (va_runS (As := As.map (pv γ)) (n := np) ⟨C0.1, C0.2.1, C0.2.2.1, C0.2.2.2.1, hts⟩ hM
    ⟨callB_of np hts (good_z z2) rfl rfl rfl (hts _ z1) (hts _ w1) z3 (room_zB (s := s) hR hdz hml), hts _ w2⟩
    ⟨pcW_blind, pcW_at C0.2.2.2.2.2.1 (by omega) hHs hW⟩ rfl (by rw [List.length_map]; exact hnp) hl.1 ?_ (st_room hS) hd (room_c hR h1 hn hnX))
  show ((As.reverse ++ S).map (pv γ)) = _
  rw [List.map_append, List.map_reverse]
end BROWS
