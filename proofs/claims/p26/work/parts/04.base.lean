/-! THE BASE: the whole world as one memory. Cells at abstract addresses: 1, 2, 3 the three static tables, 4 the script, from 8 on the cells that the law's run makes, in the order in which they come.
M holds the numbers of a cell, R its references (0: null). -/
abbrev Mm : Type := Nat → Nat → Int32
abbrev Rm : Type := Nat → Nat → Nat
/-- classes and slots; the old addresses 1..4; where the new cells begin; the array classes by tag; the script's length and numbers -/
abbrev Gm : Type := va_G × (Nat → Nat) × Nat × (Nat → ClassId) × Nat × (Nat → Int32)
def gN (γ : Gm) : Nat := γ.2.2.1
def gC (γ : Gm) (t : Nat) : ClassId := γ.2.2.2.1 t
def ph (γ : Gm) (k : Nat) : Nat := if k < 8 then γ.2.1 k else gN γ + (k - 8)
def pv (γ : Gm) (v : Value) : Value := match v with
  | .ref k => .ref (ph γ k)
  | w => w
/-- a tank's twenty cells -/
def shTank : List (Nat × Nat) := [(4, 8), (10, 3), (10, 40), (10, 40), (14, 6), (15, 4), (3, 6), (3, 6), (3, 6), (3, 6), (3, 6), (3, 6), (0, 4), (10, 60), (0, 4), (10, 60), (0, 4), (10, 60), (0, 4), (10, 60)]
/-- tag and size of each cell: a tag below 8 is the number of the class in vwCl, 10 int[], 11 char[], 12 boolean[], 13 Tank[], 14 Paddle[], 15 Gauge[] -/
def shL : List (Nat × Nat) := [(99, 0), (10, 3), (10, 3), (10, 3), (99, 0), (99, 0), (99, 0), (99, 0), (5, 7)] ++ (shTank ++ ([(2, 9), (11, 80), (1, 2), (13, 6)] ++ (shTank ++ (shTank ++ (shTank ++ (shTank ++ (shTank ++ (shTank ++ ([(13, 2), (12, 2)] ++ (shTank ++ (shTank ++ (shTank ++ (shTank ++ [(10, 5), (10, 40), (10, 40), (10, 36), (10, 30), (10, 2), (10, 60), (10, 5), (10, 40), (10, 40), (10, 36), (10, 30)])))))))))))))
def Sh (k : Nat) : Nat × Nat := shL.getD k (99, 0)
def tg (k : Nat) : Nat := (Sh k).1
def ln (k : Nat) : Nat := (Sh k).2
/-- which slots of a class are references -/
def isR (t j : Nat) : Bool := if t = 0 ∨ t = 1 ∨ t = 2 then decide (j = 0) else if t = 4 then decide (j < 5) else if t = 5 then true else if t = 6 then decide (j = 0 ∨ j = 1 ∨ j = 2 ∨ j = 4 ∨ j = 5 ∨ j = 6 ∨ j = 11) else false
def rv (γ : Gm) (r : Nat) : Value := if r = 0 then .null else .ref (ph γ r)
def rq (γ : Gm) (r : Nat) : Option Nat := if r = 0 then none else some (ph γ r)
def fv (γ : Gm) (M : Mm) (R : Rm) (k j : Nat) : Value := if isR (tg k) j then rv γ (R k j) else .int (M k j)
def ce (γ : Gm) (M : Mm) (R : Rm) (k : Nat) : va_E :=
  if tg k < 8 then .inr (tg k, (List.range (ln k)).map (fv γ M R k)) else if tg k < 13 then .inl (gC γ (tg k), ln k, .inl (M k)) else .inl (gC γ (tg k), ln k, .inr (.inr (.inr (.inr (fun j => rq γ (R k j))))))
def wl (γ : Gm) (n : Nat) (M : Mm) (R : Rm) : va_W := (List.range (n - 8)).map (fun i => (gN γ + i, ce γ M R (i + 8)))
/-- slots used by the cells below k -/
def sl : Nat → Nat
  | 0 => 0
  | k + 1 => sl k + ln k
def up {α : Type} (f : Nat → α) (k : Nat) (v : α) : Nat → α := fun j => if j = k then v else f j
def u2 {α : Type} (f : Nat → Nat → α) (a j : Nat) (v : α) : Nat → Nat → α := up f a (up (f a) j v)
theorem up_s {α : Type} (f : Nat → α) (k : Nat) (v : α) : up f k v k = v := by simp [up]
theorem up_n {α : Type} (f : Nat → α) {k j : Nat} (v : α) (h : j ≠ k) : up f k v j = f j := by simp [up, h]
theorem u2_s {α : Type} (f : Nat → Nat → α) (a j : Nat) (v : α) : u2 f a j v a = up (f a) j v := by simp [u2, up]
theorem u2_n {α : Type} (f : Nat → Nat → α) {a b : Nat} (j : Nat) (v : α) (h : b ≠ a) : u2 f a j v b = f b := by simp [u2, up, h]
theorem sl_mono {a b : Nat} (h : a ≤ b) : sl a ≤ sl b := by
  induction b with
  | zero => rw [Nat.le_zero.mp h]; exact Nat.le_refl _
  | succ b ih =>
    rcases Nat.lt_or_ge a (b + 1) with h1 | h1
    · exact Nat.le_trans (ih (Nat.le_of_lt_succ h1)) (Nat.le_add_right _ _)
    · rw [Nat.le_antisymm h h1]; exact Nat.le_refl _
theorem ph_new (γ : Gm) {k : Nat} (h : 8 ≤ k) : ph γ k = gN γ + (k - 8) := by rw [ph, if_neg (Nat.not_lt.mpr h)]
theorem ce_congr {γ : Gm} {M M' : Mm} {R R' : Rm} {k : Nat} (h1 : M k = M' k) (h2 : R k = R' k) : ce γ M R k = ce γ M' R' k := by
  unfold ce fv
  rw [h1, h2]
theorem wl_get {γ : Gm} {n : Nat} {M : Mm} {R : Rm} {k : Nat} (h8 : 8 ≤ k) (hk : k < n) : (wl γ n M R)[k - 8]? = some (ph γ k, ce γ M R k) := by
  have h1 : k - 8 < n - 8 := by omega
  rw [wl, List.getElem?_map, List.getElem?_range h1, Option.map_some, ph_new γ h8, Nat.sub_add_cancel h8]
theorem wl_len (γ : Gm) (n : Nat) (M : Mm) (R : Rm) : (wl γ n M R).length = n - 8 := by simp [wl]
theorem wl_inv {γ : Gm} {n : Nat} {M : Mm} {R : Rm} {i : Nat} {q : Nat × va_E} (h : (wl γ n M R)[i]? = some q) : i + 8 < n ∧ q = (gN γ + i, ce γ M R (i + 8)) := by
  have h1 : i < (wl γ n M R).length := (List.getElem?_eq_some_iff.mp h).1
  rw [wl_len] at h1
  have h2 := wl_get (γ := γ) (M := M) (R := R) (k := i + 8) (n := n) (by omega) (by omega)
  rw [Nat.add_sub_cancel, h, ph_new γ (by omega), Nat.add_sub_cancel] at h2
  exact ⟨by omega, Option.some.inj h2⟩
theorem wl_D (γ : Gm) (n : Nat) (M : Mm) (R : Rm) : va_D (fun q => gN γ ≤ q) (wl γ n M R) := by
  refine ⟨fun i j p q hi hj hpq => ?_, fun k q hk => ?_⟩
  · obtain ⟨-, rfl⟩ := wl_inv hi
    obtain ⟨-, rfl⟩ := wl_inv hj
    exact Nat.add_left_cancel hpq
  · obtain ⟨-, rfl⟩ := wl_inv hk
    exact Nat.le_add_right _ _
theorem wl_set {γ : Gm} {n : Nat} {M M' : Mm} {R R' : Rm} {k : Nat} {e : va_E} (h8 : 8 ≤ k) (hk : k < n) (he : e = ce γ M' R' k) (ho : ∀ j, j ≠ k → ce γ M' R' j = ce γ M R j) : (wl γ n M R).set (k - 8) (ph γ k, e) = wl γ n M' R' := by
  apply List.ext_getElem?
  intro i
  by_cases hi : i = k - 8
  · subst hi
    rw [List.getElem?_set_self (by rw [wl_len]; omega), wl_get h8 hk, he]
  · rw [List.getElem?_set_ne (Ne.symm hi)]
    rcases Nat.lt_or_ge i (n - 8) with h | h
    · have h1 := wl_get (γ := γ) (M := M) (R := R) (k := i + 8) (n := n) (by omega) (by omega)
      have h2 := wl_get (γ := γ) (M := M') (R := R') (k := i + 8) (n := n) (by omega) (by omega)
      rw [Nat.add_sub_cancel] at h1 h2
      rw [h1, h2, ho (i + 8) (by omega)]
    · rw [List.getElem?_eq_none (by rw [wl_len]; omega), List.getElem?_eq_none (by rw [wl_len]; omega)]
theorem wl_push {γ : Gm} {n : Nat} {M M' : Mm} {R R' : Rm} {e : va_E} (h8 : 8 ≤ n) (he : e = ce γ M' R' n) (ho : ∀ j, j ≠ n → ce γ M' R' j = ce γ M R j) : wl γ n M R ++ [(gN γ + (n - 8), e)] = wl γ (n + 1) M' R' := by
  apply List.ext_getElem?
  intro i
  rcases Nat.lt_trichotomy i (n - 8) with h | h | h
  · rw [List.getElem?_append_left (by rw [wl_len]; exact h)]
    have h1 := wl_get (γ := γ) (M := M) (R := R) (k := i + 8) (n := n) (by omega) (by omega)
    have h2 := wl_get (γ := γ) (M := M') (R := R') (k := i + 8) (n := n + 1) (by omega) (by omega)
    rw [Nat.add_sub_cancel] at h1 h2
    rw [h1, h2, ho (i + 8) (by omega)]
  · subst h
    rw [List.getElem?_append_right (by rw [wl_len]; omega), wl_len, Nat.sub_self, wl_get h8 (Nat.lt_succ_self n), ph_new γ h8, he]
    rfl
  · rw [List.getElem?_eq_none (by simp [wl_len]; omega), List.getElem?_eq_none (by rw [wl_len]; omega)]
theorem ce_o {γ : Gm} {M : Mm} {R : Rm} {k : Nat} (h : tg k < 8) : ce γ M R k = .inr (tg k, (List.range (ln k)).map (fv γ M R k)) := by rw [ce, if_pos h]
theorem ce_i {γ : Gm} {M : Mm} {R : Rm} {k : Nat} (h : 10 ≤ tg k) (h2 : tg k < 13) : ce γ M R k = .inl (gC γ (tg k), ln k, .inl (M k)) := by rw [ce, if_neg (by omega), if_pos h2]
theorem ce_q {γ : Gm} {M : Mm} {R : Rm} {k : Nat} (h : 13 ≤ tg k) : ce γ M R k = .inl (gC γ (tg k), ln k, .inr (.inr (.inr (.inr (fun j => rq γ (R k j)))))) := by rw [ce, if_neg (by omega), if_neg (by omega)]
theorem range_set {α : Type} (f : Nat → α) (N k : Nat) (v : α) : ((List.range N).map f).set k v = (List.range N).map (up f k v) := by
  apply List.ext_getElem?
  intro i
  rcases Nat.lt_or_ge i N with h | h
  · by_cases hi : k = i
    · subst hi
      rw [List.getElem?_set_self (by simpa using h), List.getElem?_map, List.getElem?_range h]
      simp [up]
    · rw [List.getElem?_set_ne hi, List.getElem?_map, List.getElem?_map, List.getElem?_range h]
      simp [up, Ne.symm hi]
  · rw [List.getElem?_eq_none (by simpa using h), List.getElem?_eq_none (by simpa using h)]
theorem fv_setI {γ : Gm} {M : Mm} {R : Rm} {a k : Nat} {x : Int32} (h : isR (tg a) k = false) : up (fv γ M R a) k (.int x) = fv γ (u2 M a k x) R a := by
  funext j
  by_cases hj : j = k
  · subst hj
    simp [up, fv, h, u2]
  · simp [up, fv, hj, u2]
theorem fv_setR {γ : Gm} {M : Mm} {R : Rm} {a k r : Nat} (h : isR (tg a) k = true) (hr : r ≠ 0) : up (fv γ M R a) k (.ref (ph γ r)) = fv γ M (u2 R a k r) a := by
  funext j
  by_cases hj : j = k
  · subst hj
    simp [up, fv, h, u2, rv, hr]
  · simp [up, fv, hj, u2]
/-! locals -/
def asc (γ : Gm) : Nat → List (Option Value) → List (Nat × Value)
  | _, [] => []
  | i, none :: L => asc γ (i + 1) L
  | i, some v :: L => (i, pv γ v) :: asc γ (i + 1) L
theorem asc_mem {γ : Gm} {v : Value} : ∀ {L : List (Option Value)} {i j : Nat}, L[j]? = some (some v) → (i + j, pv γ v) ∈ asc γ i L
  | [], i, j, h => by simp at h
  | o :: L, i, 0, h => by
    rw [List.getElem?_cons_zero] at h
    cases h
    exact List.mem_cons_self
  | o :: L, i, j + 1, h => by
    rw [List.getElem?_cons_succ] at h
    have h1 := asc_mem (γ := γ) (i := i + 1) h
    rw [show i + 1 + j = i + (j + 1) by omega] at h1
    cases o with
    | none => exact h1
    | some w => exact List.mem_cons_of_mem _ h1
theorem asc_inv {γ : Gm} : ∀ {L : List (Option Value)} {i : Nat} {q : Nat × Value}, q ∈ asc γ i L → ∃ (j : Nat) (v : Value), L[j]? = some (some v) ∧ q = (i + j, pv γ v)
  | [], i, q, h => by simp [asc] at h
  | none :: L, i, q, h => by
    obtain ⟨j, v, h1, h2⟩ := asc_inv (γ := γ) (L := L) (i := i + 1) h
    exact ⟨j + 1, v, by rw [List.getElem?_cons_succ]; exact h1, by rw [h2]; congr 1; omega⟩
  | some w :: L, i, q, h => by
    rcases List.mem_cons.mp h with rfl | h
    · exact ⟨0, w, rfl, rfl⟩
    · obtain ⟨j, v, h1, h2⟩ := asc_inv (γ := γ) (L := L) (i := i + 1) h
      exact ⟨j + 1, v, by rw [List.getElem?_cons_succ]; exact h1, by rw [h2]; congr 1; omega⟩
def is2 (o : Option Value) : Bool := match o with
  | some (.long _) => true
  | some (.double _) => true
  | _ => false
theorem pv_cat (γ : Gm) (v : Value) : (pv γ v).category = v.category := by cases v <;> rfl
theorem is2_cat (v : Value) : is2 (some v) = true ↔ v.category = 2 := by cases v <;> simp [is2, Value.category]
/-- storing a value of one slot, of two -/
def stA : List (Option Value) → Nat → Value → List (Option Value)
  | [], _, _ => []
  | _ :: L, 0, v => some v :: L
  | o :: L, i + 1, v => (if i = 0 ∧ is2 o = true then none else o) :: stA L i v
def stB : List (Option Value) → Nat → Value → List (Option Value)
  | [], _, _ => []
  | _ :: L, 0, v => some v :: (match L with
    | [] => []
    | _ :: T => none :: T)
  | o :: L, i + 1, v => (if i = 0 ∧ is2 o = true then none else o) :: stB L i v
theorem stA_get {v w : Value} : ∀ {L : List (Option Value)} {i j : Nat}, (stA L i v)[j]? = some (some w) → (j = i ∧ w = v) ∨ (j ≠ i ∧ L[j]? = some (some w) ∧ ¬ (j + 1 = i ∧ is2 (some w) = true))
  | [], i, j, h => by simp [stA] at h
  | o :: L, 0, 0, h => by
    simp [stA] at h
    exact Or.inl ⟨rfl, h.symm⟩
  | o :: L, 0, j + 1, h => by
    simp [stA] at h
    exact Or.inr ⟨by omega, by rw [List.getElem?_cons_succ]; exact h, by omega⟩
  | o :: L, i + 1, 0, h => by
    rw [stA, List.getElem?_cons_zero] at h
    by_cases hc : i = 0 ∧ is2 o = true
    · rw [if_pos hc] at h
      cases h
    · rw [if_neg hc] at h
      cases h
      exact Or.inr ⟨by omega, rfl, fun ⟨a, b⟩ => hc ⟨by omega, b⟩⟩
  | o :: L, i + 1, j + 1, h => by
    rw [stA, List.getElem?_cons_succ] at h
    rcases stA_get h with ⟨a, b⟩ | ⟨a, b, c⟩
    · exact Or.inl ⟨by omega, b⟩
    · exact Or.inr ⟨by omega, by rw [List.getElem?_cons_succ]; exact b, fun ⟨x, y⟩ => c ⟨by omega, y⟩⟩
theorem stB_get {v w : Value} : ∀ {L : List (Option Value)} {i j : Nat}, (stB L i v)[j]? = some (some w) → (j = i ∧ w = v) ∨ (j ≠ i ∧ j ≠ i + 1 ∧ L[j]? = some (some w) ∧ ¬ (j + 1 = i ∧ is2 (some w) = true))
  | [], i, j, h => by simp [stB] at h
  | o :: [], 0, 0, h => by
    simp [stB] at h
    exact Or.inl ⟨rfl, h.symm⟩
  | o :: [], 0, j + 1, h => by simp [stB] at h
  | o :: _ :: T, 0, 0, h => by
    simp [stB] at h
    exact Or.inl ⟨rfl, h.symm⟩
  | o :: _ :: T, 0, 1, h => by simp [stB] at h
  | o :: _ :: T, 0, j + 2, h => by
    simp [stB] at h
    exact Or.inr ⟨by omega, by omega, by rw [List.getElem?_cons_succ, List.getElem?_cons_succ]; exact h, by omega⟩
  | o :: L, i + 1, 0, h => by
    rw [stB, List.getElem?_cons_zero] at h
    by_cases hc : i = 0 ∧ is2 o = true
    · rw [if_pos hc] at h
      cases h
    · rw [if_neg hc] at h
      cases h
      exact Or.inr ⟨by omega, by omega, rfl, fun ⟨a, b⟩ => hc ⟨by omega, b⟩⟩
  | o :: L, i + 1, j + 1, h => by
    rw [stB, List.getElem?_cons_succ] at h
    rcases stB_get h with ⟨a, b⟩ | ⟨a, a2, b, c⟩
    · exact Or.inl ⟨by omega, b⟩
    · exact Or.inr ⟨by omega, by omega, by rw [List.getElem?_cons_succ]; exact b, fun ⟨x, y⟩ => c ⟨by omega, y⟩⟩
def lvh (γ : Gm) (ls : Array Slot) (nL : Nat) (L : List (Option Value)) : Prop := lv_has ls nL (asc γ 0 L)
theorem lvh_at {γ : Gm} {ls : Array Slot} {nL : Nat} {L : List (Option Value)} (h : lvh γ ls nL L) {j : Nat} {v : Value} (hj : L[j]? = some (some v)) : ls[j]? = some (.val (pv γ v)) := by
  have h1 := h.2.2 _ (asc_mem (γ := γ) (i := 0) hj)
  rwa [Nat.zero_add] at h1
theorem lvh_stA {γ : Gm} {ls' : Array Slot} {nL i : Nat} {L : List (Option Value)} {v : Value} (h : lv_has ls' nL ((i, pv γ v) :: (asc γ 0 L).filter (fun q => !(q.1 == i) && !(q.1 + 1 == i && q.2.category == 2)))) : lvh γ ls' nL (stA L i v) := by
  refine ⟨h.1, h.2.1, fun q hq => h.2.2 q ?_⟩
  obtain ⟨j, w, h1, rfl⟩ := asc_inv hq
  rw [Nat.zero_add]
  rcases stA_get h1 with ⟨rfl, rfl⟩ | ⟨a, b, c⟩
  · exact List.mem_cons_self
  · refine List.mem_cons_of_mem _ (List.mem_filter.mpr ⟨?_, ?_⟩)
    · have h2 := asc_mem (γ := γ) (i := 0) b
      rwa [Nat.zero_add] at h2
    · rw [is2_cat] at c
      simp only [pv_cat, Bool.and_eq_true, Bool.not_eq_true', beq_eq_false_iff_ne, ne_eq, Bool.and_eq_false_iff]
      refine ⟨a, ?_⟩
      by_cases z : j + 1 = i
      · exact Or.inr (by simpa using fun q => c ⟨z, q⟩)
      · exact Or.inl z
theorem lvh_stB {γ : Gm} {ls' : Array Slot} {nL i : Nat} {L : List (Option Value)} {v : Value} (h : lv_has ls' nL ((i, pv γ v) :: (asc γ 0 L).filter (fun q => !(q.1 == i) && (!(q.1 == i + 1) && !(q.1 + 1 == i && q.2.category == 2))))) : lvh γ ls' nL (stB L i v) := by
  refine ⟨h.1, h.2.1, fun q hq => h.2.2 q ?_⟩
  obtain ⟨j, w, h1, rfl⟩ := asc_inv hq
  rw [Nat.zero_add]
  rcases stB_get h1 with ⟨rfl, rfl⟩ | ⟨a, a2, b, c⟩
  · exact List.mem_cons_self
  · refine List.mem_cons_of_mem _ (List.mem_filter.mpr ⟨?_, ?_⟩)
    · have h2 := asc_mem (γ := γ) (i := 0) b
      rwa [Nat.zero_add] at h2
    · rw [is2_cat] at c
      simp only [pv_cat, Bool.and_eq_true, Bool.not_eq_true', beq_eq_false_iff_ne, ne_eq, Bool.and_eq_false_iff]
      refine ⟨a, a2, ?_⟩
      by_cases z : j + 1 = i
      · exact Or.inr (by simpa using fun q => c ⟨z, q⟩)
      · exact Or.inl z
def iL : List Value → List (Option Value)
  | [] => []
  | v :: vs => if v.category = 2 then some v :: none :: iL vs else some v :: iL vs
def inL (n : Nat) (vs : List Value) : List (Option Value) := iL vs ++ List.replicate (n - (iL vs).length) none
theorem asc_app (γ : Gm) : ∀ (L L' : List (Option Value)) (i : Nat), asc γ i (L ++ L') = asc γ i L ++ asc γ (i + L.length) L'
  | [], L', i => rfl
  | none :: L, L', i => by
    show asc γ (i + 1) (L ++ L') = asc γ (i + 1) L ++ _
    rw [asc_app γ L L' (i + 1), List.length_cons, show i + 1 + L.length = i + (L.length + 1) by omega]
  | some v :: L, L', i => by
    show (i, pv γ v) :: asc γ (i + 1) (L ++ L') = (i, pv γ v) :: (asc γ (i + 1) L ++ _)
    rw [asc_app γ L L' (i + 1), List.length_cons, show i + 1 + L.length = i + (L.length + 1) by omega]
theorem asc_none (γ : Gm) : ∀ (k i : Nat), asc γ i (List.replicate k none) = []
  | 0, _ => rfl
  | k + 1, i => asc_none γ k (i + 1)
theorem asc_iL (γ : Gm) : ∀ (vs : List Value) (i : Nat), asc γ i (iL vs) = lv_args i (vs.map (pv γ))
  | [], _ => rfl
  | v :: vs, i => by
    rw [List.map_cons, lv_args, pv_cat, iL]
    by_cases h : v.category = 2
    · rw [if_pos h, if_pos h, ← asc_iL γ vs (i + 2)]
      rfl
    · rw [if_neg h, if_neg h, ← asc_iL γ vs (i + 1)]
      rfl
theorem lvh_entry {γ : Gm} {ls : Array Slot} {n : Nat} {vs : List Value} (h : lv_has ls n (lv_args 0 (vs.map (pv γ)))) : lvh γ ls n (inL n vs) := by
  unfold lvh inL
  rw [asc_app, asc_none, List.append_nil, asc_iL]
  exact h
theorem lg_len : ∀ (γ : Gm) (vs : List Value), (lg_sl (vs.map (pv γ))).length = (iL vs).length
  | _, [] => rfl
  | γ, v :: vs => by
    have ih := lg_len γ vs
    unfold lg_sl at ih ⊢
    rw [List.map_cons, List.flatMap_cons, List.length_append, ih, pv_cat, iL]
    by_cases h : v.category = 2
    · rw [if_pos h, if_pos h]
      simp
      omega
    · rw [if_neg h, if_neg h]
      simp
      omega
