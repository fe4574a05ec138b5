/-! THE CLAIM OUT OF ONE WALK OF THE LAW'S BODY -/
/-! WHAT THE START HOLDS -/
theorem eqi_t {args : Array Value} {s : State} {t : Term} {z : Int32} (h : (Cond.eq t (.int z)).before args s = true) : t.eval args s none [] s = some (.int z) := by
  cases hv : t.eval args s none [] s with
  | none => simp [Cond.before, Cond.holds, Cond.value, hv] at h
  | some w =>
    have hz : (Term.int z).eval args s none [] s = some (.int z) := rfl
    simp only [Cond.before, Cond.holds, Cond.value, hv, hz] at h
    cases w <;> simp_all
theorem len_lt {args : Array Value} {s : State} {t : Term} {v : Value} {a : Addr} {cell : Cell} (hv : (Term.length t).eval args s none [] s = some v) (ht : t.eval args s none [] s = some (.ref a)) (hc : s.arrayAt? a = some cell) : cell.slots.size < 2 ^ 31 := by
  simp only [Term.eval, ht, hc, Option.bind_eq_bind, Option.bind_some] at hv
  by_cases hlt : cell.slots.size < 2147483648
  · exact hlt
  · simp [hlt] at hv
/-- a static table: where it lies -/
theorem st_one {args : Array Value} {s : State} {n : String} {f : Nat → Int32} {A : Nat → Prop} (hl : (Cond.laysStatic RX5 n "[I").before args s = true) (hini : (Cond.initialized RX5).before args s = true) (harr : (Cond.arrayOf (.static RX5 n "[I") .int).before args s = true) (hlen : (Cond.eq (.length (.static RX5 n "[I")) (.int 3)).before args s = true)
    (h0 : (Cond.eq (.elem (.static RX5 n "[I") (.int 0)) (.int (f 0))).before args s = true) (h1 : (Cond.eq (.elem (.static RX5 n "[I") (.int 1)) (.int (f 1))).before args s = true) (h2 : (Cond.eq (.elem (.static RX5 n "[I") (.int 2)) (.int (f 2))).before args s = true) (hex : (Cond.exactly (.static RX5 n "[I") "[I").before args s = true) (hA : ∀ a : Nat, a < s.heap.size → ¬ A a) :
    ∃ t : Nat, va_Z RX5 n "[I" (.ref t) A s s.heap ∧ va_T .int t 3 (fun j => .int (f j)) A s s.heap ∧ ∃ cell : Cell, s.heap[t]? = some cell ∧ s.vm.findClass "[I" = some cell.cls ∧ cell.slots.size = 3 := by
  have hlv := eqi_t hlen
  obtain ⟨t, ht, hT⟩ := va_Tof (N := 3) (f := fun j => .int (f j)) (A := A) (by decide) harr hlv (fun j hj => by
    rcases (by omega : j = 0 ∨ j = 1 ∨ j = 2) with e | e | e <;> subst e
    · exact eqi_t h0
    · exact eqi_t h1
    · exact eqi_t h2) hA
  refine ⟨t, va_Zof hl hini ht hA, hT, ?_⟩
  obtain ⟨t2, cell, e1, e2, e3⟩ := Term.length_spec hlv
  cases ht.symm.trans e1
  have hsz := len_lt hlv ht e2
  obtain ⟨hcell, -, -, -⟩ := State.arrayAt?_spec e2
  obtain ⟨a, c, cell2, k, q1, q2, q3, -, -, q6, -⟩ := Cond.exactly_spec (args := args) (first := s) (o := none) (s := s) (idx := []) hex
  cases ht.symm.trans q1
  cases hcell.symm.trans q3
  refine ⟨cell, hcell, by rw [q6]; exact q2, ?_⟩
  have e4 : (3 : Int32) = cell.slots.size.toInt32 := Value.int.inj e3
  have e5 := congrArg Int32.toInt e4
  rw [show (3 : Int32).toInt = 3 by decide, show cell.slots.size.toInt32 = nI cell.slots.size from rfl, nI_toInt hsz] at e5
  omega
theorem ar_prim {args : Array Value} {s : State} {ty : FieldType} (h : (Cond.arrayClass ty).before args s = true) (ho : ∀ C, ty ≠ .object C) : ∃ cA, ArrOfT s cA ty ∧ va_RA s cA ty ∧ s.vm.findClass ("[" ++ ty.toString) = some cA := by
  obtain ⟨cA, k, comp, h1, h2, h3⟩ := Cond.arrayClass_spec (args := args) (first := s) (o := none) (s := s) (idx := []) h
  refine ⟨cA, fun n z => ⟨(fun k h => by cases h), k, h2, comp, h3⟩, ?_, h1⟩
  unfold va_RA
  split
  · exact absurd rfl (ho _)
  · exact h1
theorem ar_obj {args : Array Value} {s : State} {C : String} (h : (Cond.arrayOver (.object C)).before args s = true) : ∃ cA, ArrOfT s cA (.object C) ∧ va_RA s cA (.object C) := by
  obtain ⟨comp, cA, k, h1, -, h3, h4, h5⟩ := Cond.arrayOver_spec (args := args) (first := s) (o := none) (s := s) (idx := []) h
  exact ⟨cA, fun n z => ⟨(fun k h => by cases h), k, h3, comp, h4⟩, k, comp, h3, h4, h1, h5⟩
def R_law : String := "PaddleRowsLaw"
def lw_P (b : Addr) (xs : List Int32) (args : Array Value) (s : State) : Prop := args = #[.ref b] ∧ s.IntsAt b xs ∧ xs.length ≤ 260 ∧ (Jvm.Cond.and given_1 narrow_1).before args s = true
def lw_Q (_ : Array Value) (s : State) (o : Outcome) (t : State) : Prop := o = .returned (some (.int 1)) ∧ Framed s o t [] 600000 7302250
def lw_Z (below : List Frame) (a : Array Value) (s : State) : State → Prop := fun t => ∃ o, t.status = .running ∧ Ended t below o ∧ lw_Q a s o t
/-- the law's own end, with 1 on the stack, nothing written that was there before, its room as the claim has it -/
theorem lw_ret {p : Program} {l : Launch} {e : Env} {s : State} {m : MethodId} {below : List Frame} {meth : Method} {c : Code} {b : Nat} (hx : p.tables.exec = Jvm.exec) (hb : c.code = code) (hr : meth.sig.returnType = ret) (hlocks : meth.locks = false) {pc : Nat} {H : Heap} {ls : Array Slot} (hdg : decode code pc = .ok (.ireturn, 1)) : W p l e room_1 s m #[Value.ref b] below meth c H [] 600000 7302250 (lw_Z below #[Value.ref b] s) (F0 m pc ls [.int 1]) := by
  intro T hT X
  obtain ⟨fs, hret, hrun, hended, hW, hframe⟩ := X.leave (v := some (.int 1)) (hlocks := hlocks) (fun h => by rw [hr] at h; cases h)
  have hmeth' : T.vm.method? m = some meth := X.method'
  refine ⟨T.setFrames fs, ?_, .returned (some (.int 1)), hrun, hended, rfl, ⟨_, rfl⟩, hW, hframe⟩
  jvm_step X.here [X.here.top, hx, hb, hdg, hmeth', hr, ret, narrow_b1]
  (try refine ⟨rfl, ?_⟩); (try refine ⟨rfl, ?_⟩)
  first | (intro acts; rw [hret _ acts rfl rfl rfl]) | rw [hret _ _ rfl rfl rfl]
  exact Steps.refl _
/-- what holds at the law's entry: the machine, the code, the tables' words (any of lw_tbl by 'hts w (by decide +kernel)'), the script of L ints xs at the cell b, what the Statement gives of the start (any of its parts by flat_of_before) -/
def lw_At (p : Program) (s : State) (m : MethodId) (meth : Method) (c : Code) (b L : Nat) (xs : Nat → Int32) : Prop :=
  p.tables.exec = Jvm.exec ∧ c.code = code ∧ meth.sig.returnType = ret ∧ c.maxLocals = 27 ∧ s.vm.findClass R_law = some m.cls ∧ (∀ w ∈ lw_tbl, w.before #[Value.ref b] s = true) ∧ va_X b L xs s s.heap ∧ b < s.heap.size ∧ meth.locks = false ∧ (Jvm.Cond.and given_1 narrow_1).before #[Value.ref b] s = true
/-- the world at the law's start -/
theorem kk_start {s : State} {b L : Nat} {xs : Nat → Int32} (hts : ∀ w ∈ lw_tbl, w.before #[Value.ref b] s = true) (hX : va_X b L xs s s.heap) (hbl : b < s.heap.size) (hgv : (Jvm.Cond.and given_1 narrow_1).before #[Value.ref b] s = true) : ∃ γ : Gm, KK γ s ∧ ph γ 4 = b ∧ gN γ = s.heap.size ∧ γ.2.2.2.2.1 = L := by
  have hst := flat_of_before _ hgv
  have hWS : ∀ w ∈ WS, w.before #[Value.ref b] s = true := fun w hw => hts w (List.mem_filter.mp hw).1
  have hA : ∀ a : Nat, a < s.heap.size → ¬ (fun q : Nat => s.heap.size ≤ q) a := fun a h => Nat.not_le.mpr h
  obtain ⟨t1, zz1, yy1, cc1, u1, v1, w1⟩ := st_one (f := stV 1) (n := "FIRST_SETTINGS") (hts (.laysStatic RX5 "FIRST_SETTINGS" "[I") (by decide +kernel)) (hWS _ q1) (hst (.arrayOf (.static RX5 "FIRST_SETTINGS" "[I") .int) (by decide +kernel)) (hst (.eq (.length (.static RX5 "FIRST_SETTINGS" "[I")) (.int 3)) (by decide +kernel)) (hst (.eq (.elem (.static RX5 "FIRST_SETTINGS" "[I") (.int 0)) (.int (stV 1 0))) (by decide +kernel)) (hst (.eq (.elem (.static RX5 "FIRST_SETTINGS" "[I") (.int 1)) (.int (stV 1 1))) (by decide +kernel)) (hst (.eq (.elem (.static RX5 "FIRST_SETTINGS" "[I") (.int 2)) (.int (stV 1 2))) (by decide +kernel)) (hst (.exactly (.static RX5 "FIRST_SETTINGS" "[I") "[I") (by decide +kernel)) hA
  obtain ⟨t2, zz2, yy2, cc2, u2, v2, w2⟩ := st_one (f := stV 2) (n := "LEAST_SETTINGS") (hts (.laysStatic RX5 "LEAST_SETTINGS" "[I") (by decide +kernel)) (hWS _ q1) (hst (.arrayOf (.static RX5 "LEAST_SETTINGS" "[I") .int) (by decide +kernel)) (hst (.eq (.length (.static RX5 "LEAST_SETTINGS" "[I")) (.int 3)) (by decide +kernel)) (hst (.eq (.elem (.static RX5 "LEAST_SETTINGS" "[I") (.int 0)) (.int (stV 2 0))) (by decide +kernel)) (hst (.eq (.elem (.static RX5 "LEAST_SETTINGS" "[I") (.int 1)) (.int (stV 2 1))) (by decide +kernel)) (hst (.eq (.elem (.static RX5 "LEAST_SETTINGS" "[I") (.int 2)) (.int (stV 2 2))) (by decide +kernel)) (hst (.exactly (.static RX5 "LEAST_SETTINGS" "[I") "[I") (by decide +kernel)) hA
  obtain ⟨t3, zz3, yy3, cc3, u3, v3, w3⟩ := st_one (f := stV 3) (n := "GREATEST_SETTINGS") (hts (.laysStatic RX5 "GREATEST_SETTINGS" "[I") (by decide +kernel)) (hWS _ q1) (hst (.arrayOf (.static RX5 "GREATEST_SETTINGS" "[I") .int) (by decide +kernel)) (hst (.eq (.length (.static RX5 "GREATEST_SETTINGS" "[I")) (.int 3)) (by decide +kernel)) (hst (.eq (.elem (.static RX5 "GREATEST_SETTINGS" "[I") (.int 0)) (.int (stV 3 0))) (by decide +kernel)) (hst (.eq (.elem (.static RX5 "GREATEST_SETTINGS" "[I") (.int 1)) (.int (stV 3 1))) (by decide +kernel)) (hst (.eq (.elem (.static RX5 "GREATEST_SETTINGS" "[I") (.int 2)) (.int (stV 3 2))) (by decide +kernel)) (hst (.exactly (.static RX5 "GREATEST_SETTINGS" "[I") "[I") (by decide +kernel)) hA
  obtain ⟨c0, i0, k0⟩ := u_known hWS cls0.2.1 (hWS _ cls0.2.2.2.2.1)
  obtain ⟨c1, i1, k1⟩ := u_known hWS cls1.2.1 (hWS _ cls1.2.2.2.2.1)
  obtain ⟨c2, i2, k2⟩ := u_known hWS cls2.2.1 (hWS _ cls2.2.2.2.2.1)
  obtain ⟨c3, i3, k3⟩ := u_known hWS cls3.2.1 (hWS _ cls3.2.2.2.2.1)
  obtain ⟨c4, i4, k4⟩ := u_known hWS cls4.2.1 (hWS _ cls4.2.2.2.2.1)
  obtain ⟨c5, i5, k5⟩ := u_known hWS cls5.2.1 (hWS _ cls5.2.2.2.2.1)
  obtain ⟨aI, aI1, aI2, aI3⟩ := ar_prim (hWS _ q73) (fun C h => by cases h)
  obtain ⟨aC, aC1, aC2, aC3⟩ := ar_prim (hWS _ q155) (fun C h => by cases h)
  obtain ⟨aZ, aZ1, aZ2, aZ3⟩ := ar_prim (hWS _ q195) (fun C h => by cases h)
  have oT := hts (.arrayOver (.object RX4)) (by decide +kernel)
  have oP := hts (.arrayOver (.object RX3)) (by decide +kernel)
  have oG := hts (.arrayOver (.object RX0)) (by decide +kernel)
  obtain ⟨aT, aT1, aT2⟩ := ar_obj oT
  obtain ⟨aP, aP1, aP2⟩ := ar_obj oP
  obtain ⟨aG, aG1, aG2⟩ := ar_obj oG
  have nI := va_nm_int aI2
  refine ⟨((fun k => match k with | 0 => c0 | 1 => c1 | 2 => c2 | 3 => c3 | 4 => c4 | _ => c5, fun k => match k with | 0 => i0 | 1 => i1 | 2 => i2 | 3 => i3 | 4 => i4 | _ => i5), fun k => match k with | 1 => t1 | 2 => t2 | 3 => t3 | _ => b, s.heap.size, fun t => match t with | 10 => aI | 11 => aC | 12 => aZ | 13 => aT | 14 => aP | _ => aG, L, xs), ⟨⟨fun c q hq => ?_, fun k q hk => ?_⟩, fun w hw => ?_, ⟨va_AO.of oT, va_AO.of oP, va_AO.of oG⟩, fun k h1 h2 => ?_, Nat.le_refl _, ⟨hX, hbl, Nat.not_le.mpr hbl⟩⟩, rfl, rfl, rfl⟩
  · match c, hq with
    | 0, hq => cases hq; exact k0
    | 1, hq => cases hq; exact k1
    | 2, hq => cases hq; exact k2
    | 3, hq => cases hq; exact k3
    | 4, hq => cases hq; exact k4
    | 5, hq => cases hq; exact k5
    | c + 6, hq => simp [vwCl] at hq
  · match k, hk with
    | 0, hk => cases hk; exact ⟨aI1, aI2⟩
    | 1, hk => cases hk; exact ⟨aC1, aC2⟩
    | 2, hk => cases hk; exact ⟨aZ1, aZ2⟩
    | 3, hk => cases hk; exact ⟨aT1, aT2⟩
    | 4, hk => cases hk; exact ⟨aP1, aP2⟩
    | 5, hk => cases hk; exact ⟨aG1, aG2⟩
    | k + 6, hk => simp [tysG] at hk
  · have h1 := List.mem_filter.mp hw
    exact va_Nw.of (nest_tab h1.2) (hts w (List.mem_append_right _ h1.1))
  · rcases (by omega : k = 1 ∨ k = 2 ∨ k = 3) with e | e | e <;> subst e
    · exact ⟨zz1, yy1, cc1, u1, Option.some.inj (v1.symm.trans nI), w1⟩
    · exact ⟨zz2, yy2, cc2, u2, Option.some.inj (v2.symm.trans nI), w2⟩
    · exact ⟨zz3, yy3, cc3, u3, Option.some.inj (v3.symm.trans nI), w3⟩
set_option maxRecDepth 100000 in
set_option maxHeartbeats 4000000 in
theorem whole_start {p : Program} {e : Env} {s : State} {m : MethodId} {below : List Frame} {meth : Method} {c : Code} (l : Launch) (hflags : l.flags = flags0) {b L : Nat} {xs : Nat → Int32} (hL : L ≤ 260) (C0 : lw_At p s m meth c b L xs) : W p l e room_1 s m #[Value.ref b] below meth c s.heap [] 0 0 (lw_Z below #[Value.ref b] s) (entryFrame m ([Value.ref b] : List Value).toArray 27) := by
  obtain ⟨hx, hb, hr, hml, hown, hts, hX, hbl, hlocks, hgv⟩ := C0
  have hWS : ∀ w ∈ WS, w.before #[Value.ref b] s = true := fun w hw => hts w (List.mem_filter.mp hw).1
  obtain ⟨γ, hKK, hp4, hgN, hL2⟩ := kk_start hts hX hbl hgv
  have hl := lv_entry ([.ref b]) (n := 27) (Nat.le_of_ble_eq_true rfl)
  rw [lg_entry_eq]
  have hl : lv_has (lg_sl [.ref b] ++ List.replicate (27 - (lg_sl [.ref b]).length) Slot.unset).toArray 27 (lv_args 0 ([Value.ref 4].map (pv γ))) := by
    rw [show ([Value.ref 4].map (pv γ)) = [Value.ref b] by rw [List.map_cons, List.map_nil, pv, hp4]]
    exact hl
  have hk := lw_body (γ := γ) (l := l) (M := fun _ _ => 0) (R := fun _ _ => 0) (K := fun v _ _ _ => v = some (.int 1)) (by rw [hL2]; exact hL) (fun _ _ => rfl)
  have hS : Wd γ 8 (fun _ _ => 0) (fun _ _ => 0) s s.heap [] := ⟨fun k q h => by simp [wl] at h, va_S.rf⟩
  have h := hk p e room_1 s m #[Value.ref b] below meth c (lw_Z below #[Value.ref b] s) s.heap [] _
    ⟨hx, hb, hml, hown, hWS, hKK, ⟨by decide, by decide, by decide, by decide +kernel⟩, ⟨Nat.le_refl _, hgN.symm⟩, fun h => absurd h (by decide)⟩
    (fun pc' v M' R' H' locs' ls' hret hW hv => by
      subst hv
      refine va_forget (fun q hq => ?_) (W.widen (k := 600000) (n := 7302250) (by decide) (by decide +kernel) ?_)
      · have := hW.2.2.2 q hq
        rw [← hgN]
        exact this
      · exact lw_ret hx hb hr hlocks hret.1)
    hS (Nat.le_refl _) (by decide) (lvh_entry hl)
  rw [Nat.sub_self, Nat.sub_self] at h
  exact h
set_option maxHeartbeats 4000000 in
theorem lw_walk (l : Launch) (hflags : l.flags = flags0) (b : Addr) (xs : List Int32) : MetFree l x (headSpec (Jvm.Cond.code x code maxLocals ret :: tables_1) room_1) (lw_P b xs) (fun _ _ _ _ _ => True) lw_Q := by
  refine MetFree.of_bodyS (code := code) (maxLocals := maxLocals) (ret := ret) (by decide) ?_ ?_
  · intro args s m h hn
    obtain ⟨meth, c, h1, h2, h3, h4, h5, h6, -, -⟩ := Cond.code_spec hn (atoms_spec (ws := Jvm.Cond.code x code maxLocals ret :: tables_1) h _ List.mem_cons_self)
    exact ⟨meth, c, h1, h2, h3, h4, h5, h6⟩
  · intro p e s m args below meth c s₁ B hml0 hP _
    obtain ⟨rfl, hx, hbd, hgv⟩ := hP
    obtain ⟨scr, harrAt, hlist, hof, hsmall⟩ := hx
    obtain ⟨hcb, hkn, -, -⟩ := State.arrayAt?_spec harrAt
    have hown : s.vm.findClass R_law = some m.cls := findClass_of_methodNamed B.named
    have hts0 : ∀ c ∈ (Jvm.Cond.code x code maxLocals ret :: tables_1), c.before #[Value.ref b] s = true := atoms_spec (ws := Jvm.Cond.code x code maxLocals ret :: tables_1) B.pre
    have hts : ∀ w ∈ lw_tbl, w.before #[Value.ref b] s = true := k2_hts_sels lw_privs (fun w hw => hts0 w (List.mem_cons_of_mem _ hw)) lw_privs_ok
    have hml : c.maxLocals = 27 := B.maxLocals_eq (hts0 _ List.mem_cons_self)
    have X₀ : Stand p l e room_1 s m #[Value.ref b] below meth c s₁ [] 0 0 := Stand.of_body B
    have hh0 : s₁.heap = s.heap := by rw [B.state]; rfl
    have hsz : scr.slots.size = xs.length := by rw [← Array.length_toList, hlist, List.length_map]
    have hval : ∀ j : Nat, j < xs.length → scr.slots[j]? = some (.int (xs.getD j 0)) := fun j hj => by
      rw [← Array.getElem?_toList, hlist]
      simp [hj]
    have hbl : b < s.heap.size := (Array.getElem?_eq_some_iff.mp hcb).1
    have hX : va_X b xs.length (fun j => xs.getD j 0) s s.heap := ⟨scr, hcb, hof, hkn, hsz, hval⟩
    have K : W p l e room_1 s m #[Value.ref b] below meth c s₁.heap [] 0 0 (lw_Z below #[Value.ref b] s) (entryFrame m ([Value.ref b] : List Value).toArray 27) := by
      rw [hh0]
      exact whole_start l hflags hbd ⟨B.exec, B.bytes, B.returns, hml, hown, hts, hX, hbl, B.notSynchronized, hgv⟩
    obtain ⟨t, a1, o, b1, b2, b3⟩ := K s₁ rfl X₀
    exact ⟨t, o, a1, b1, b2, b3⟩
theorem lw_pre_spec {args : Array Value} {s : State} (h : (Jvm.Cond.and given_1 narrow_1).before args s = true) (hr : rest_1_c.before args s = true) : ∃ (b : Addr) (xs : List Int32), lw_P b xs args s := by
  have hs := flat_of_before _ h
  have hq := flat_of_before _ hr
  have hc : (Cond.count 1).before args s = true := hs _ (by decide +kernel)
  have harr : (Cond.arrayOf (.arg 0) .int).before args s = true := hs _ (by decide +kernel)
  have hle : (Cond.le (.length (.arg 0)) (.int 260)).before args s = true := hs _ (by decide +kernel)
  have hlen : (Cond.isInt (.length (.arg 0))).before args s = true := hq _ (by decide +kernel)
  have hall : (Cond.all (.arg 0) (.isInt (.elem (.arg 0) (.index 0)))).before args s = true := hq _ (by decide +kernel)
  obtain ⟨b, xs, hb, hx⟩ := State.ints_of_pre rfl harr hlen hall
  have hsm : xs.length < 2 ^ 31 := hx.choose_spec.2.2.2
  have hev : (Term.length (.arg 0)).eval args s none [] s = some (.int xs.length.toInt32) := hx.length_eval hb
  have hv := Cond.le_ints hev (show (Term.int 260).eval args s none [] s = some (.int 260) from rfl)
  have hd : xs.length.toInt32 ≤ 260 := by
    simpa [Cond.before, Cond.holds, hv] using hle
  have hN : xs.length ≤ 260 := (Int32.ofNat_le_ofNat hsm (by decide)).mp (show Int32.ofNat xs.length ≤ Int32.ofNat 260 from hd)
  exact ⟨b, xs, Cond.one_arg hc (show args[0]? = some (.ref b) from hb), hx, hN, h⟩
theorem lw_comes (l : Launch) (hflags : l.flags = flags0) : Comes l x (Jvm.Cond.code x code maxLocals ret :: tables_1) room_1 (fun tb e args s => Calls_1 tb e args s ∧ rest_1 tb e args s ∧ Pre_1 tb e args s)
    (fun _ _ args s o t => lw_Q args s o t) := by
  intro p e ha hc hk s m args below hf hfit hheap happ hpre
  obtain ⟨b, xs, hP⟩ := lw_pre_spec hpre.2.2 hpre.2.1
  obtain ⟨k, o, h1, h2, h3, hQ⟩ := lw_walk l hflags b xs p e ha hc hk s m args below hf ((Spec.applies_iff_loose hf).mp happ).1 hP trivial
  exact ⟨k, o, h1, h2, h3, hQ⟩
theorem lw_frame {s t : State} {o : Outcome} {args : Array Value} (h : Framed s o t [] 600000 7302250) :
    Framed s o t (fieldLocs frame_1_writes args s ++ arrayLocs frame_1_arrays args s ++ staticLocs frame_1_statics s) 600000 7302250 := h
theorem lw_limb (L : Cond) (hL : ∀ (args : Array Value) (s t : State), L.after args s (.returned (some (.int 1))) t = true) :
    ArmFor flags0 classFile x code maxLocals ret World_1 tables_1 room_1 Calls_1 rest_1 Pre_1
      (fun tb e a s o t => postC L tb e a s o t ∧ Framed s o t (fieldLocs frame_1_writes a s ++ arrayLocs frame_1_arrays a s ++ staticLocs frame_1_statics s) 600000 7302250) := by
  intro l hflags _ _ p e ha hc hk s m args below hf hfit hheap happ hpre
  obtain ⟨k, o, h1, h2, h3, rfl, hF⟩ := lw_comes l hflags p e ha hc hk s m args below hf hfit hheap happ hpre
  exact ⟨k, _, h1, h2, h3, hL args s _, lw_frame hF⟩
theorem i_vc : Claimed_1_1 ∧ Claimed_1_2 := ⟨lw_limb limb_1_1 (fun args s t => by simp [limb_1_1, Cond.after, Cond.holds, Cond.value]), lw_limb limb_1_2 (fun args s t => Cond.after_iff.mpr (by
  first | (rw [show limb_1_2 = Cond.eq .result (.int 1) from rfl, Cond.eq_ints (x := 1) (y := 1) rfl rfl]; simp; done) | (simp [limb_1_2, Cond.value, Term.eval]; done)))⟩
