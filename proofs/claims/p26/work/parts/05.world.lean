/-! THE WORLD'S WORDS, AND WHAT A WALK OF A METHOD IS OVER THE MEMORY -/
def WS : List Cond := lw_tbl.filter goodWord
theorem inWS {w : Cond} (h : w ∈ lw_tbl) (hg : goodWord w = true) : w ∈ WS := List.mem_filter.mpr ⟨h, hg⟩
theorem WS_good {w : Cond} (h : w ∈ WS) : (w.onTables && w.keeps) = true ∨ ∃ ty, w = .arrayClass ty := good_of_word (List.mem_filter.mp h).2
/-- the words of nest mates, and the one cast: they move by laws of their own -/
def nestW (w : Cond) : Bool := match w with
  | .fieldLinkNest _ _ _ _ _ _ => true
  | .methodLinkNest _ _ _ _ => true
  | .castable _ _ => true
  | _ => false
theorem nestW_warm {w : Cond} (h : nestW w = true) {s U : State} (hW : s.WarmedH U.vm) (hZ : va_Nw w s) : va_Nw w U := by
  cases w <;> first | exact hZ.warmF hW | exact hZ.warmM hW | exact hZ.warmC hW | exact Bool.noConfusion h
def NW : List Cond := tables_1.filter nestW
abbrev tysG (γ : Gm) : List (ClassId × FieldType) := [(gC γ 10, .int), (gC γ 11, .char), (gC γ 12, .boolean), (gC γ 13, .object RX4), (gC γ 14, .object RX3), (gC γ 15, .object RX0)]
/-- the three static tables -/
def stN (k : Nat) : String := if k = 1 then "FIRST_SETTINGS" else if k = 2 then "LEAST_SETTINGS" else "GREATEST_SETTINGS"
def stV (k j : Nat) : Int32 := if k = 1 then (if j = 0 then 80 else if j = 1 then 2 else 500) else if k = 2 then (if j = 0 then 0 else if j = 1 then 0 else 1) else (if j = 0 then 100 else if j = 1 then 50 else 9999)
abbrev aN (γ : Gm) : Nat → Prop := fun q => gN γ ≤ q
def StK (γ : Gm) (s : State) (k : Nat) : Prop := va_Z RX5 (stN k) "[I" (.ref (ph γ k)) (aN γ) s s.heap ∧ va_T .int (ph γ k) 3 (fun j => .int (stV k j)) (aN γ) s s.heap ∧ ∃ cell : Cell, s.heap[ph γ k]? = some cell ∧ cell.cls = gC γ 10 ∧ cell.slots.size = 3
def ScK (γ : Gm) (s : State) : Prop := va_X (ph γ 4) γ.2.2.2.2.1 γ.2.2.2.2.2 s s.heap ∧ ph γ 4 < s.heap.size ∧ ¬ aN γ (ph γ 4)
theorem ScK.moved {γ : Gm} {s U : State} (h : ScK γ s) (hvm : s.vm.Alike U.vm) (hz : s.heap.size ≤ U.heap.size) (hq : ∀ a : Nat, a < s.heap.size → ¬ aN γ a → U.heap[a]? = s.heap[a]?) : ScK γ U := ⟨(h.1.moved hvm).kept (hq _ h.2.1 h.2.2), Nat.lt_of_lt_of_le h.2.1 hz, h.2.2⟩
def KK (γ : Gm) (s : State) : Prop := va_K γ.1 vwCl (tysG γ) s ∧ (∀ w ∈ NW, va_Nw w s) ∧ (va_AO RX4 s ∧ va_AO RX3 s ∧ va_AO RX0 s) ∧ (∀ k, 1 ≤ k → k < 4 → StK γ s k) ∧ gN γ ≤ s.heap.size ∧ ScK γ s
theorem StK.moved {γ : Gm} {s U : State} {k : Nat} (h : StK γ s k) (hvm : s.vm.Alike U.vm) (hq : ∀ a : Nat, a < s.heap.size → ¬ aN γ a → U.heap[a]? = s.heap[a]?) : StK γ U k := by
  obtain ⟨h1, h2, cell, h3, h4⟩ := h
  refine ⟨(h1.moved hvm).kept hq, (h2.moved hvm).kept hq, cell, ?_, h4⟩
  obtain ⟨cell', g1, -, -, -, -, -, g7⟩ := h2
  rw [hq _ (Array.getElem?_eq_some_iff.mp g1).1 g7]
  exact h3
theorem KK.moved {γ : Gm} {s U : State} (h : KK γ s) (hW : s.WarmedH U.vm) (hz : s.heap.size ≤ U.heap.size) (hq : ∀ a : Nat, a < s.heap.size → ¬ aN γ a → U.heap[a]? = s.heap[a]?) : KK γ U := by
  obtain ⟨h1, h2, ⟨a1, a2, a3⟩, h4, h5, h6⟩ := h
  have hvm := hW.alike
  exact ⟨h1.moved hvm, fun w hw => nestW_warm (List.mem_filter.mp hw).2 hW (h2 w hw), ⟨a1.moved hvm, a2.moved hvm, a3.moved hvm⟩, fun k k1 k2 => (h4 k k1 k2).moved hvm hq, Nat.le_trans h5 hz, h6.moved hvm hz hq⟩
theorem KK.calling {γ : Gm} {U : State} {g : JFrame} {mk : MethodId} {a : Array Value} (h : KK γ U) : KK γ (U.calling g mk a) :=
  ⟨va_K.moved (u := U) (U := U.calling g mk a) (Vm.Alike.refl U.vm) h.1, fun w hw => by
    have h1 := h.2.1 w hw
    have h2 := (List.mem_filter.mp hw).2
    refine va_Nw.same ?_ (rfl : U.vm = (U.calling g mk a).vm) h1
    cases w <;> first | rfl | exact Bool.noConfusion h2, ⟨va_AO.moved (u := U) (U := U.calling g mk a) (Vm.Alike.refl U.vm) h.2.2.1.1, va_AO.moved (u := U) (U := U.calling g mk a) (Vm.Alike.refl U.vm) h.2.2.1.2.1, va_AO.moved (u := U) (U := U.calling g mk a) (Vm.Alike.refl U.vm) h.2.2.1.2.2⟩, fun k k1 k2 => (h.2.2.2.1 k k1 k2).moved (U := U.calling g mk a) (Vm.Alike.refl U.vm) (fun _ _ _ => rfl), h.2.2.2.2.1, h.2.2.2.2.2.moved (U := U.calling g mk a) (Vm.Alike.refl U.vm) (Nat.le_refl _) (fun _ _ _ => rfl)⟩
def Cx (γ : Gm) (y : Mt) (d nE nX : Nat) (p : Program) (R0 : Room) (s : State) (m : MethodId) (args : Array Value) (meth : Method) (c : Code) : Prop :=
  p.tables.exec = Jvm.exec ∧ c.code = y.2.1 ∧ c.maxLocals = y.2.2.1 ∧ s.vm.findClass y.1.cls = some m.cls ∧ (∀ w ∈ WS, w.before args s = true) ∧ KK γ s ∧ (d ≤ R0.frames ∧ 34 * d ≤ R0.locals ∧ nX - nE ≤ R0.cells ∧ sl nX - sl nE ≤ R0.slots) ∧ (8 ≤ nE ∧ s.heap.size = gN γ + (nE - 8)) ∧ (y.1.name = "<init>" → meth.name = "<init>")
def Wd (γ : Gm) (n : Nat) (M : Mm) (R : Rm) (s : State) (H : Heap) (locs : List Loc) : Prop := va_P γ.1 vwCl (wl γ n M R) H ∧ va_S (aN γ) s.heap H locs
def retOk (y : Mt) (pc : Nat) (v : Option Value) : Prop := match v with
  | none => decode y.2.1 pc = .ok (.return_, 1) ∧ y.2.2.2 = none
  | some (.int x) => decode y.2.1 pc = .ok (.ireturn, 1) ∧ ∃ ty, y.2.2.2 = some ty ∧ narrow ty (.int x) = .int x
  | some (.long _) => decode y.2.1 pc = .ok (.lreturn, 1) ∧ y.2.2.2 = some .long
  | _ => False
/-- from pc, with these locals and this stack and this memory, method y comes to its end, and there K holds of its answer and of the memory -/
def WP (γ : Gm) (l : Launch) (y : Mt) (d nE nX : Nat) (pc : Nat) (L : List (Option Value)) (S : List Value) (n : Nat) (M : Mm) (R : Rm) (K : Option Value → Nat → Mm → Rm → Prop) : Prop :=
  ∀ (p : Program) (e : Env) (R0 : Room) (s : State) (m : MethodId) (args : Array Value) (below : List Frame) (meth : Method) (c : Code) (Q : State → Prop) (H : Heap) (locs : List Loc) (ls : Array Slot),
    Cx γ y d nE nX p R0 s m args meth c →
    (∀ (pc' : Nat) (v : Option Value) (M' : Mm) (R' : Rm) (H' : Heap) (locs' : List Loc) (ls' : Array Slot), retOk y pc' v → Wd γ nX M' R' s H' locs' → K v nX M' R' →
      W p l e R0 s m args below meth c H' locs' (nX - nE) (sl nX - sl nE) Q (F0 m pc' ls' (v.map (pv γ)).toList)) →
    Wd γ n M R s H locs → nE ≤ n → n ≤ nX → lvh γ ls y.2.2.1 L →
    W p l e R0 s m args below meth c H locs (n - nE) (sl n - sl nE) Q (F0 m pc ls (S.map (pv γ)))
def CL (γ : Gm) (l : Launch) (z : Mt) (d n n' : Nat) (As : List Value) (M : Mm) (R : Rm) (K : Option Value → Nat → Mm → Rm → Prop) : Prop := WP γ l z d n n' 0 (inL z.2.2.1 As) [] n M R K
theorem WP.mono {γ : Gm} {l : Launch} {y : Mt} {d nE nX pc n : Nat} {L : List (Option Value)} {S : List Value} {M : Mm} {R : Rm} {K K' : Option Value → Nat → Mm → Rm → Prop} (h : WP γ l y d nE nX pc L S n M R K) (hK : ∀ v M' R', K v nX M' R' → K' v nX M' R') : WP γ l y d nE nX pc L S n M R K' :=
  fun p e R0 s m args below meth c Q H locs ls C hr => h p e R0 s m args below meth c Q H locs ls C (fun pc' v M' R' H' locs' ls' h1 h2 h3 => hr pc' v M' R' H' locs' ls' h1 h2 (hK v M' R' h3))
/-! calls -/
def PcW (γ : Gm) (As : List Value) (n : Nat) (M : Mm) (R : Rm) : Array Value → State → Prop := fun a U => a = (As.map (pv γ)).toArray ∧ KK γ U ∧ 8 ≤ n ∧ U.heap.size = gN γ + (n - 8) ∧ va_P γ.1 vwCl (wl γ n M R) U.heap
def QcW (γ : Gm) (n' : Nat) (K : Option Value → Nat → Mm → Rm → Prop) : Array Value → State → Outcome → State → Prop := fun _ st o t => ∃ (r : Option Value) (M' : Mm) (R' : Rm), o = .returned (r.map (pv γ)) ∧ K r n' M' R' ∧ va_P γ.1 vwCl (wl γ n' M' R') t.heap ∧ va_F (aN γ) st t
abbrev rmW (d n n' : Nat) : Room := { frames := d, cells := n' - n, slots := sl n' - sl n, locals := 34 * d }
theorem Met.ofWF {l : Launch} {y : MethodName} {ws ws' : List Cond} {rm : Room} {Pc : Array Value → State → Prop} {Qc : Array Value → State → Outcome → State → Prop} {mc ms : Nat} {free : Addr → Prop} {cc : ByteArray} {maxL : Nat} {ret : Option FieldType}
    (hy : plainFor y = true) (hw : ws = Cond.code y cc maxL ret :: ws')
    (body : ∀ p e s m args below meth c s₁, BodyLoose p l y (headSpec ws rm) cc maxL ret e s m args below meth c s₁ → c.maxLocals = maxL → Pc args s →
      W p l e (headSpec ws rm).room s m args below meth c s.heap [] 0 0 (MQ below Qc args s mc ms free) (entryFrame m args maxL)) : Met l y ws rm Pc Qc mc ms free := by
  refine MetFree.of_bodySF (code := cc) (maxLocals := maxL) (ret := ret) hy ?_ ?_
  · intro args s m h hn
    obtain ⟨meth, c, h1, h2, h3, h4, h5, h6, -, -⟩ := Cond.code_spec hn (atoms_spec (ws := ws) h _ (by rw [hw]; exact List.mem_cons_self))
    exact ⟨meth, c, h1, h2, h3, h4, h5, h6⟩
  · intro p e s m args below meth c s₁ B hml hP _
    have hh0 : s₁.heap = s.heap := by rw [B.state]; rfl
    obtain ⟨t, a1, o, b1, b2, b3⟩ := body p e s m args below meth c s₁ B hml hP s₁ hh0 (Stand.of_body B)
    exact ⟨t, o, a1, b1, b2, ⟨b3.1, b3.2⟩⟩
set_option maxHeartbeats 1000000 in
theorem met_of {γ : Gm} {l : Launch} {z : Mt} {d n n' : Nat} {As : List Value} {M : Mm} {R : Rm} {K : Option Value → Nat → Mm → Rm → Prop} (hpl : plainFor z.1 = true) (hn : n ≤ n') (hlen : (iL As).length ≤ z.2.2.1) (hk : CL γ l z d n n' As M R K) :
    Met l z.1 (Cond.code z.1 z.2.1 z.2.2.1 z.2.2.2 :: WS) (rmW d n n') (PcW γ As n M R) (QcW γ n' K) (n' - n) (sl n' - sl n) (aN γ) := by
  refine Met.ofWF (cc := z.2.1) (maxL := z.2.2.1) (ret := z.2.2.2) hpl rfl ?_
  intro p e s m args below meth c s₁ B hml hv
  obtain ⟨rfl, hKK, h8, hsz, hP⟩ := hv
  have hlocks := B.notSynchronized
  have hb := B.bytes
  have hr := B.returns
  have hts := atoms_spec (ws := Cond.code z.1 z.2.1 z.2.2.1 z.2.2.2 :: WS) B.pre
  rw [lg_entry_eq]
  have hl := lv_entry (As.map (pv γ)) (n := z.2.2.1) (by rw [lg_len]; exact hlen)
  have h := hk p e (headSpec (Cond.code z.1 z.2.1 z.2.2.1 z.2.2.2 :: WS) (rmW d n n')).room s m (As.map (pv γ)).toArray below meth c (MQ below (QcW γ n' K) (As.map (pv γ)).toArray s (n' - n) (sl n' - sl n) (aN γ)) s.heap [] _
    ⟨B.exec, hb, hml, findClass_of_methodNamed B.named, fun w hw => hts w (List.mem_cons_of_mem _ hw), hKK, ⟨Nat.le_refl _, Nat.le_refl _, Nat.le_refl _, Nat.le_refl _⟩, ⟨h8, hsz⟩, fun h => (name_of_methodNamed B.named B.method).1.trans h⟩
    (fun pc' v M' R' H' locs' ls' hret hW hK => by
      obtain ⟨wP, wS⟩ := hW
      match v, hret with
      | none, hret => exact W.vret B.exec hb (hr.trans hret.2) (fun t ht hW => ⟨none, M', R', rfl, hK, by rw [ht]; exact wP, wS.F ht⟩) wS.2.2 hret.1 hlocks
      | some (.int x), hret =>
        obtain ⟨hd, ty, h1, h2⟩ := hret
        exact W.zret B.exec hb (hr.trans h1) h2 (fun t ht hW => ⟨some (.int x), M', R', rfl, hK, by rw [ht]; exact wP, wS.F ht⟩) wS.2.2 hd hlocks
      | some (.long x), hret => exact W.lret B.exec hb (hr.trans hret.2) (fun t ht hW => ⟨some (.long x), M', R', rfl, hK, by rw [ht]; exact wP, wS.F ht⟩) wS.2.2 hret.1 hlocks
      | some (.ref _), hret => exact hret.elim
      | some .null, hret => exact hret.elim
      | some (.float _), hret => exact hret.elim
      | some (.double _), hret => exact hret.elim)
    ⟨hP, va_S.rf⟩ (Nat.le_refl _) hn (lvh_entry hl)
  rw [Nat.sub_self, Nat.sub_self] at h
  exact h
section CALLS
variable {γ : Gm} {p : Program} {l : Launch} {e : Env} {R0 : Room} {s : State} {m : MethodId} {args : Array Value} {below : List Frame} {meth : Method} {c : Code} {H : Heap} {locs : List Loc} {cells slots : Nat} {Q : State → Prop}
theorem call_fin {pc : Nat} {ls : Array Slot} {rest st0 : List Value} {a : Array Value} {mc ms n' : Nat} {K : Option Value → Nat → Mm → Rm → Prop} (hr : va_Run p l e R0 s m args below meth c H locs cells slots mc ms (F0 m pc ls st0) rest (QcW γ n' K a) (aN γ)) (hS : va_S (aN γ) s.heap H locs)
    (kk : ∀ (r : Option Value) (M' : Mm) (R' : Rm) (H1 : Heap) (locs1 : List Loc), K r n' M' R' → Wd γ n' M' R' s H1 locs1 → W p l e R0 s m args below meth c H1 locs1 (cells + mc) (slots + ms) Q (F0 m (pc + 3) ls ((r.map (pv γ)).toList ++ rest))) : W p l e R0 s m args below meth c H locs cells slots Q (F0 m pc ls st0) := by
  intro T hT X
  obtain ⟨v, st₀, t, T', L, h0, X', hL, e1, e2, ⟨r, M', R', hv, hK, hP, hz, hk⟩, st⟩ := hr T hT X
  cases hv
  rw [h0] at hz hk
  obtain ⟨t2, a1, b1⟩ := kk r M' R' T'.heap (locs ++ L) hK ⟨by rw [e1]; exact hP, Nat.le_trans hS.1 (by rw [e1]; exact hz), fun q h1 h2 => by rw [e1, hk q (Nat.lt_of_lt_of_le h1 hS.1) h2]; exact hS.2.1 q h1 h2, fun q hq => by
      rcases List.mem_append.mp hq with h | h
      · exact hS.2.2 q h
      · exact hL q h⟩ T' rfl X'
  exact ⟨t2, st t2 a1, b1⟩
theorem pcW_blind {As : List Value} {n : Nat} {M : Mm} {R : Rm} : FrameBlind (PcW γ As n M R) := fun _ _ _ _ h => ⟨h.1, h.2.1.calling, h.2.2.1, h.2.2.2.1, h.2.2.2.2⟩
theorem pcW_at {As : List Value} {n : Nat} {M : Mm} {R : Rm} (hK : KK γ s) (h8 : 8 ≤ n) (hsz : H.size = gN γ + (n - 8)) (hW : Wd γ n M R s H locs) : ∀ U : State, U.heap = H → s.WarmedH U.vm → PcW γ As n M R (As.map (pv γ)).toArray U := by
  intro U hU hw
  obtain ⟨hP, hS⟩ := hW
  exact ⟨rfl, hK.moved hw (by rw [hU]; exact hS.1) (fun a h1 h2 => by rw [hU]; exact hS.2.1 a h1 h2), h8, by rw [hU]; exact hsz, by rw [hU]; exact hP⟩
theorem W_sz {g : JFrame} (h : H.size ≤ s.heap.size + cells → W p l e R0 s m args below meth c H locs cells slots Q g) : W p l e R0 s m args below meth c H locs cells slots Q g := fun T hT X => h (by rw [← hT]; exact X.heapSize) T hT X
theorem wd_size {n nE : Nat} {M : Mm} {R : Rm} (hW : Wd γ n M R s H locs) (h8 : 8 ≤ nE) (hs : s.heap.size = gN γ + (nE - 8)) (h1 : nE ≤ n) (hu : H.size ≤ s.heap.size + (n - nE)) : H.size = gN γ + (n - 8) := by
  rcases Nat.lt_or_ge nE n with h | h
  · have h2 := (hW.1 _ _ (wl_get (γ := γ) (n := n) (k := n - 1) (by omega) (by omega))).lt
    rw [show ((ph γ (n - 1), ce γ M R (n - 1)) : Nat × va_E).1 = ph γ (n - 1) from rfl, ph_new γ (by omega)] at h2
    omega
  · have h2 := hW.2.1
    omega
end CALLS
