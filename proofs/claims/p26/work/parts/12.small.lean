/-! SMALL THINGS: index forms, tops of the stack, addresses, rows of the memory -/
theorem ix_lit {n : Nat} : (OfNat.ofNat n : Int32) = nI n := rfl
theorem ix_var {n : Nat} : nI n = nI n := rfl
theorem ix_add {x z : Int32} {a b : Nat} (h1 : x = nI a) (h2 : z = nI b) : x + z = nI (a + b) := by rw [h1, h2, nI_add]
theorem ix_mul {x z : Int32} {a b : Nat} (h1 : x = nI a) (h2 : z = nI b) : x * z = nI (a * b) := by rw [h1, h2, pk_mul]
theorem ix_sub {x z : Int32} {a b : Nat} (h1 : x = nI a) (h2 : z = nI b) (h : b ≤ a) : x - z = nI (a - b) := by rw [h1, h2, pk_sub h]
/-- a truth as the machine has it -/
def b01 (p : Prop) [Decidable p] : Int32 := if p then 1 else 0
theorem b01_t {p : Prop} [Decidable p] (h : p) : b01 p = 1 := by rw [b01, if_pos h]
theorem b01_f {p : Prop} [Decidable p] (h : ¬ p) : b01 p = 0 := by rw [b01, if_neg h]
theorem b01_0 {p : Prop} [Decidable p] : b01 p = 0 ↔ ¬ p := by
  by_cases h : p
  · rw [b01_t h]
    exact ⟨fun q => absurd q (by decide), fun q => absurd h q⟩
  · rw [b01_f h]
    exact ⟨fun _ => h, fun _ => rfl⟩
theorem b01_1 {p : Prop} [Decidable p] : ¬ b01 p = 0 ↔ p := by rw [b01_0, Decidable.not_not]
theorem b01_n {p : Prop} [Decidable p] : narrow .boolean (.int (b01 p)) = .int (b01 p) := by
  by_cases h : p
  · rw [b01_t h]; rfl
  · rw [b01_f h]; rfl
theorem b01_c {p q : Prop} [Decidable p] [Decidable q] (h : p ↔ q) : b01 p = b01 q := by
  by_cases h1 : p
  · rw [b01_t h1, b01_t (h.mp h1)]
  · rw [b01_f h1, b01_f (fun z => h1 (h.mpr z))]
theorem u2_up {α : Type} (f : Nat → Nat → α) (a i : Nat) (r : Nat → α) (v : α) : u2 (up f a r) a i v = up f a (up r i v) := by
  funext b j
  by_cases h : b = a
  · subst h
    simp [u2, up]
  · simp [u2, up, h]
theorem up_eta {α : Type} (f : Nat → α) (a : Nat) : up f a (f a) = f := by
  funext b
  by_cases h : b = a
  · subst h
    simp [up]
  · simp [up, h]
theorem up_up {α : Type} (f : Nat → α) (a : Nat) (x z : α) : up (up f a x) a z = up f a z := by
  funext b
  by_cases h : b = a
  · simp [up, h]
  · simp [up, h]
theorem up_comm {α : Type} (f : Nat → α) {a b : Nat} (h : a ≠ b) (x z : α) : up (up f a x) b z = up (up f b z) a x := by
  funext c
  by_cases h1 : c = a
  · subst h1
    simp [up, h]
  · by_cases h2 : c = b
    · subst h2
      simp [up, h1]
    · simp [up, h1, h2]
theorem u2_eq {α : Type} (f : Nat → Nat → α) (a i : Nat) (v : α) : u2 f a i v = up f a (up (f a) i v) := rfl
/-- fewer locals -/
def leL : List (Option Value) → List (Option Value) → Prop
  | [], _ => True
  | none :: A, _ :: B => leL A B
  | some v :: A, w :: B => w = some v ∧ leL A B
  | _ :: _, [] => False
theorem leL_at : ∀ {A B : List (Option Value)} {i : Nat} {v : Value}, leL A B → A[i]? = some (some v) → B[i]? = some (some v)
  | [], _, i, v, _, h => by simp at h
  | none :: A, _ :: B, 0, v, _, h => by simp at h
  | none :: A, _ :: B, i + 1, v, hl, h => by
    rw [List.getElem?_cons_succ] at h ⊢
    exact leL_at (A := A) (B := B) hl h
  | some x :: A, w :: B, 0, v, hl, h => by
    rw [List.getElem?_cons_zero] at h ⊢
    rw [hl.1]
    exact h
  | some x :: A, w :: B, i + 1, v, hl, h => by
    rw [List.getElem?_cons_succ] at h ⊢
    exact leL_at hl.2 h
  | none :: _, [], _, _, hl, _ => hl.elim
  | some _ :: _, [], _, _, hl, _ => hl.elim
theorem wp_drop {γ : Gm} {l : Launch} {y : Mt} {d nE nX pc n : Nat} {L : List (Option Value)} {S : List Value} {M : Mm} {R : Rm} {K : Option Value → Nat → Mm → Rm → Prop} (L' : List (Option Value)) (h : leL L' L) (k : WP γ l y d nE nX pc L' S n M R K) : WP γ l y d nE nX pc L S n M R K := by
  intro p e R0 s m args below meth c Q H locs ls C0 hret hW h1 h2 hl
  refine k p e R0 s m args below meth c Q H locs ls C0 hret hW h1 h2 ⟨hl.1, hl.2.1, fun q hq => hl.2.2 q ?_⟩
  obtain ⟨j, v, g1, rfl⟩ := asc_inv hq
  exact asc_mem (leL_at h g1)
theorem inc_1 (k : Nat) : nI k + Int32.ofInt 1 = nI (k + 1) := by
  rw [show Int32.ofInt 1 = 1 by decide, nI_1]
theorem dec_1 {k : Nat} (h : 1 ≤ k) : nI k + Int32.ofInt (-1) = nI (k - 1) := by
  obtain ⟨j, rfl⟩ : ∃ j, k = j + 1 := ⟨k - 1, by omega⟩
  rw [show Int32.ofInt (-1) = -1 by decide, pk_m1, Nat.add_sub_cancel]
abbrev KT : Type := Option Value → Nat → Mm → Rm → Prop
/-- the references of the class's object -/
def RC (R : Rm) : Prop := R 8 0 = 9 ∧ R 8 1 = 29 ∧ R 8 2 = 31 ∧ R 8 3 = 153 ∧ R 8 4 = 154 ∧ R 8 5 = 155 ∧ R 8 6 = 175 ∧ R 29 0 = 30 ∧ R 31 0 = 32 ∧ R 153 0 = 195 ∧ R 153 1 = 215
theorem RC.f0 {R : Rm} (h : RC R) : R 8 0 = 9 := h.1
theorem RC.f1 {R : Rm} (h : RC R) : R 8 1 = 29 := h.2.1
theorem RC.f2 {R : Rm} (h : RC R) : R 8 2 = 31 := h.2.2.1
theorem RC.f3 {R : Rm} (h : RC R) : R 8 3 = 153 := h.2.2.2.1
theorem RC.f4 {R : Rm} (h : RC R) : R 8 4 = 154 := h.2.2.2.2.1
theorem RC.f5 {R : Rm} (h : RC R) : R 8 5 = 155 := h.2.2.2.2.2.1
theorem RC.f6 {R : Rm} (h : RC R) : R 8 6 = 175 := h.2.2.2.2.2.2.1
theorem RC.p {R : Rm} (h : RC R) : R 29 0 = 30 := h.2.2.2.2.2.2.2.1
theorem RC.h {R : Rm} (h : RC R) : R 31 0 = 32 := h.2.2.2.2.2.2.2.2.1
theorem RC.s0 {R : Rm} (h : RC R) : R 153 0 = 195 := h.2.2.2.2.2.2.2.2.2.1
theorem RC.s1 {R : Rm} (h : RC R) : R 153 1 = 215 := h.2.2.2.2.2.2.2.2.2.2
/-- the references of a tank; its paddles may have changed their places -/
def RT (R : Rm) (b : Nat) : Prop := (R b 0 = b + 1 ∧ R b 1 = b + 2 ∧ R b 2 = b + 3 ∧ R b 3 = b + 4 ∧ R b 4 = b + 5) ∧ (∀ g, g < 4 → R (b + 5) g = b + 12 + 2 * g ∧ R (b + 12 + 2 * g) 0 = b + 13 + 2 * g) ∧ (∀ k, k < 6 → b + 6 ≤ R (b + 4) k ∧ R (b + 4) k < b + 12) ∧ ∀ i j, i < 6 → j < 6 → R (b + 4) i = R (b + 4) j → i = j
theorem RT.f0 {R : Rm} {b : Nat} (h : RT R b) : R b 0 = b + 1 := h.1.1
theorem RT.f1 {R : Rm} {b : Nat} (h : RT R b) : R b 1 = b + 2 := h.1.2.1
theorem RT.f2 {R : Rm} {b : Nat} (h : RT R b) : R b 2 = b + 3 := h.1.2.2.1
theorem RT.f3 {R : Rm} {b : Nat} (h : RT R b) : R b 3 = b + 4 := h.1.2.2.2.1
theorem RT.f4 {R : Rm} {b : Nat} (h : RT R b) : R b 4 = b + 5 := h.1.2.2.2.2
section TOPS
variable {γ : Gm} {l : Launch} {y : Mt} {d nE nX pc n : Nat} {L : List (Option Value)} {S : List Value} {M : Mm} {R : Rm} {K : Option Value → Nat → Mm → Rm → Prop}
theorem wp_top {x z : Int32} (e : x = z) (k : WP γ l y d nE nX pc L (.int z :: S) n M R K) : WP γ l y d nE nX pc L (.int x :: S) n M R K := by rw [e]; exact k
theorem wp_topv {x : Int32} (k : ∀ v : Int32, v = x → WP γ l y d nE nX pc L (.int v :: S) n M R K) : WP γ l y d nE nX pc L (.int x :: S) n M R K := k x rfl
theorem wp_topl {x : Int64} (k : ∀ v : Int64, v = x → WP γ l y d nE nX pc L (.long v :: S) n M R K) : WP γ l y d nE nX pc L (.long x :: S) n M R K := k x rfl
theorem wp_mem {M' : Mm} (e : M = M') (k : WP γ l y d nE nX pc L S n M' R K) : WP γ l y d nE nX pc L S n M R K := by rw [e]; exact k
theorem wp_loc {L' : List (Option Value)} (e : L = L') (k : WP γ l y d nE nX pc L' S n M R K) : WP γ l y d nE nX pc L S n M R K := by rw [e]; exact k
theorem wp_iadn {a i : Nat} {x v : Int32} (hx : x = nI i) (ht : tg a = 10) (h8 : 8 ≤ a) (hi : i < ln a) (ha : a < n) (hd : decode y.2.1 pc = .ok (.iaload, 1)) (hv : M a i = v) (kk : WP γ l y d nE nX (pc + 1) L (.int v :: S) n M R K) : WP γ l y d nE nX pc L (.int x :: .ref a :: S) n M R K := wp_iald hx ht h8 hi ha hd (by rw [hv]; exact kk)
theorem wp_getJ {a ci k idx : Nat} {v : Int32} (hF : Fl y.1.cls idx ci k) (ht : tg a = ci) (hr : isR ci k = false) (ha : a < n) (hd : decode y.2.1 pc = .ok (.getfield idx, 3)) (hv : M a k = v) (kk : WP γ l y d nE nX (pc + 3) L (.int v :: S) n M R K) : WP γ l y d nE nX pc L (.ref a :: S) n M R K := wp_getI hF ht hr ha hd (by rw [hv]; exact kk)
theorem wp_icN_ge {x z : Int32} {a b : Nat} {off : Int} {tgt : Nat} (hd : decode y.2.1 pc = .ok (.if_icmp .ge off, 3)) (ht : (pc : Int) + off = (tgt : Int)) (hx : x = nI a) (hz : z = nI b) (ha : a < 2 ^ 31) (hb : b < 2 ^ 31) (kt : b ≤ a → WP γ l y d nE nX tgt L S n M R K) (kf : a < b → WP γ l y d nE nX (pc + 3) L S n M R K) : WP γ l y d nE nX pc L (.int z :: .int x :: S) n M R K := by
  subst hx; subst hz
  exact wp_icmp_ge hd ht (fun h => kt ((nI_leI hb ha).mp h)) (fun h => kf (Nat.lt_of_not_le fun q => h ((nI_leI hb ha).mpr q)))
theorem wp_icN_gt {x z : Int32} {a b : Nat} {off : Int} {tgt : Nat} (hd : decode y.2.1 pc = .ok (.if_icmp .gt off, 3)) (ht : (pc : Int) + off = (tgt : Int)) (hx : x = nI a) (hz : z = nI b) (ha : a < 2 ^ 31) (hb : b < 2 ^ 31) (kt : b < a → WP γ l y d nE nX tgt L S n M R K) (kf : a ≤ b → WP γ l y d nE nX (pc + 3) L S n M R K) : WP γ l y d nE nX pc L (.int z :: .int x :: S) n M R K := by
  subst hx; subst hz
  exact wp_icmp_gt hd ht (fun h => kt ((nI_ltI hb ha).mp h)) (fun h => kf (Nat.le_of_not_lt fun q => h ((nI_ltI hb ha).mpr q)))
theorem wp_icN_lt {x z : Int32} {a b : Nat} {off : Int} {tgt : Nat} (hd : decode y.2.1 pc = .ok (.if_icmp .lt off, 3)) (ht : (pc : Int) + off = (tgt : Int)) (hx : x = nI a) (hz : z = nI b) (ha : a < 2 ^ 31) (hb : b < 2 ^ 31) (kt : a < b → WP γ l y d nE nX tgt L S n M R K) (kf : b ≤ a → WP γ l y d nE nX (pc + 3) L S n M R K) : WP γ l y d nE nX pc L (.int z :: .int x :: S) n M R K := by
  subst hx; subst hz
  exact wp_icmp_lt hd ht (fun h => kt ((nI_ltI ha hb).mp h)) (fun h => kf (Nat.le_of_not_lt fun q => h ((nI_ltI ha hb).mpr q)))
theorem wp_icN_le {x z : Int32} {a b : Nat} {off : Int} {tgt : Nat} (hd : decode y.2.1 pc = .ok (.if_icmp .le off, 3)) (ht : (pc : Int) + off = (tgt : Int)) (hx : x = nI a) (hz : z = nI b) (ha : a < 2 ^ 31) (hb : b < 2 ^ 31) (kt : a ≤ b → WP γ l y d nE nX tgt L S n M R K) (kf : b < a → WP γ l y d nE nX (pc + 3) L S n M R K) : WP γ l y d nE nX pc L (.int z :: .int x :: S) n M R K := by
  subst hx; subst hz
  exact wp_icmp_le hd ht (fun h => kt ((nI_leI ha hb).mp h)) (fun h => kf (Nat.lt_of_not_le fun q => h ((nI_leI ha hb).mpr q)))
theorem wp_icN_eq {x z : Int32} {a b : Nat} {off : Int} {tgt : Nat} (hd : decode y.2.1 pc = .ok (.if_icmp .eq off, 3)) (ht : (pc : Int) + off = (tgt : Int)) (hx : x = nI a) (hz : z = nI b) (ha : a < 2 ^ 31) (hb : b < 2 ^ 31) (kt : a = b → WP γ l y d nE nX tgt L S n M R K) (kf : a ≠ b → WP γ l y d nE nX (pc + 3) L S n M R K) : WP γ l y d nE nX pc L (.int z :: .int x :: S) n M R K := by
  subst hx; subst hz
  exact wp_icmp_eq hd ht (fun h => kt ((nI_eq ha hb).mp h)) (fun h => kf (fun q => h ((nI_eq ha hb).mpr q)))
theorem wp_icN_ne {x z : Int32} {a b : Nat} {off : Int} {tgt : Nat} (hd : decode y.2.1 pc = .ok (.if_icmp .ne off, 3)) (ht : (pc : Int) + off = (tgt : Int)) (hx : x = nI a) (hz : z = nI b) (ha : a < 2 ^ 31) (hb : b < 2 ^ 31) (kt : a ≠ b → WP γ l y d nE nX tgt L S n M R K) (kf : a = b → WP γ l y d nE nX (pc + 3) L S n M R K) : WP γ l y d nE nX pc L (.int z :: .int x :: S) n M R K := by
  subst hx; subst hz
  exact wp_icmp_ne hd ht (fun h => kt (fun q => h ((nI_eq ha hb).mpr q))) (fun h => kf ((nI_eq ha hb).mp h))
theorem wp_ifN_le {x : Int32} {a : Nat} {off : Int} {tgt : Nat} (hd : decode y.2.1 pc = .ok (.ifCond .le off, 3)) (ht : (pc : Int) + off = (tgt : Int)) (hx : x = nI a) (ha : a < 2 ^ 31) (kt : a = 0 → WP γ l y d nE nX tgt L S n M R K) (kf : 0 < a → WP γ l y d nE nX (pc + 3) L S n M R K) : WP γ l y d nE nX pc L (.int x :: S) n M R K := by
  subst hx
  exact wp_if_le hd ht (fun h => kt (Nat.le_zero.mp ((nI_leI (b := 0) ha (by decide)).mp h))) (fun h => kf (Nat.pos_of_ne_zero fun q => h (by subst q; decide)))
theorem wp_ifN_gt {x : Int32} {a : Nat} {off : Int} {tgt : Nat} (hd : decode y.2.1 pc = .ok (.ifCond .gt off, 3)) (ht : (pc : Int) + off = (tgt : Int)) (hx : x = nI a) (ha : a < 2 ^ 31) (kt : 0 < a → WP γ l y d nE nX tgt L S n M R K) (kf : a = 0 → WP γ l y d nE nX (pc + 3) L S n M R K) : WP γ l y d nE nX pc L (.int x :: S) n M R K := by
  subst hx
  exact wp_if_gt hd ht (fun h => kt (Nat.pos_of_ne_zero fun q => by subst q; exact absurd h (by decide))) (fun h => kf (Nat.le_zero.mp (Nat.le_of_not_lt fun q => h ((nI_ltI (a := 0) (by decide) ha).mpr q))))
theorem wp_ifN_eq {x : Int32} {a : Nat} {off : Int} {tgt : Nat} (hd : decode y.2.1 pc = .ok (.ifCond .eq off, 3)) (ht : (pc : Int) + off = (tgt : Int)) (hx : x = nI a) (ha : a < 2 ^ 31) (kt : a = 0 → WP γ l y d nE nX tgt L S n M R K) (kf : 0 < a → WP γ l y d nE nX (pc + 3) L S n M R K) : WP γ l y d nE nX pc L (.int x :: S) n M R K := by
  subst hx
  exact wp_if_eq hd ht (fun h => kt ((nI_eq (b := 0) ha (by decide)).mp h)) (fun h => kf (Nat.pos_of_ne_zero fun q => h (by subst q; rfl)))
theorem wp_ifN_ne {x : Int32} {a : Nat} {off : Int} {tgt : Nat} (hd : decode y.2.1 pc = .ok (.ifCond .ne off, 3)) (ht : (pc : Int) + off = (tgt : Int)) (hx : x = nI a) (ha : a < 2 ^ 31) (kt : 0 < a → WP γ l y d nE nX tgt L S n M R K) (kf : a = 0 → WP γ l y d nE nX (pc + 3) L S n M R K) : WP γ l y d nE nX pc L (.int x :: S) n M R K := by
  subst hx
  exact wp_if_ne hd ht (fun h => kt (Nat.pos_of_ne_zero fun q => h (by subst q; rfl))) (fun h => kf ((nI_eq (b := 0) ha (by decide)).mp h))
theorem wp_ifN_lt {x : Int32} {a : Nat} {off : Int} {tgt : Nat} (hd : decode y.2.1 pc = .ok (.ifCond .lt off, 3)) (ht : (pc : Int) + off = (tgt : Int)) (hx : x = nI a) (ha : a < 2 ^ 31) (k : WP γ l y d nE nX (pc + 3) L S n M R K) : WP γ l y d nE nX pc L (.int x :: S) n M R K := by
  subst hx
  exact wp_if_lt hd ht (fun h => absurd h (nI_pos ha)) (fun _ => k)
theorem wp_ifN_ge {x : Int32} {a : Nat} {off : Int} {tgt : Nat} (hd : decode y.2.1 pc = .ok (.ifCond .ge off, 3)) (ht : (pc : Int) + off = (tgt : Int)) (hx : x = nI a) (ha : a < 2 ^ 31) (k : WP γ l y d nE nX tgt L S n M R K) : WP γ l y d nE nX pc L (.int x :: S) n M R K := by
  subst hx
  exact wp_if_ge hd ht (fun _ => k) (fun h => absurd (nI_pos' ha) h)
/-- a truth on the stack, asked -/
theorem wp_bq_eq {p : Prop} [Decidable p] {off : Int} {tgt : Nat} (hd : decode y.2.1 pc = .ok (.ifCond .eq off, 3)) (ht : (pc : Int) + off = (tgt : Int)) (kt : ¬ p → WP γ l y d nE nX tgt L S n M R K) (kf : p → WP γ l y d nE nX (pc + 3) L S n M R K) : WP γ l y d nE nX pc L (.int (b01 p) :: S) n M R K := wp_if_eq hd ht (fun h => kt (b01_0.mp h)) (fun h => kf (b01_1.mp h))
theorem wp_bq_ne {p : Prop} [Decidable p] {off : Int} {tgt : Nat} (hd : decode y.2.1 pc = .ok (.ifCond .ne off, 3)) (ht : (pc : Int) + off = (tgt : Int)) (kt : p → WP γ l y d nE nX tgt L S n M R K) (kf : ¬ p → WP γ l y d nE nX (pc + 3) L S n M R K) : WP γ l y d nE nX pc L (.int (b01 p) :: S) n M R K := wp_if_ne hd ht (fun h => kt (b01_1.mp h)) (fun h => kf (b01_0.mp h))
end TOPS

theorem tA_8 : tg 8 = 5 := by decide +kernel
theorem lA_8 : ln 8 = 7 := by decide +kernel
theorem tA_29 : tg 29 = 2 := by decide +kernel
theorem lA_29 : ln 29 = 9 := by decide +kernel
theorem tA_30 : tg 30 = 11 := by decide +kernel
theorem lA_30 : ln 30 = 80 := by decide +kernel
theorem tA_31 : tg 31 = 1 := by decide +kernel
theorem lA_31 : ln 31 = 2 := by decide +kernel
theorem tA_32 : tg 32 = 13 := by decide +kernel
theorem lA_32 : ln 32 = 6 := by decide +kernel
theorem tA_153 : tg 153 = 13 := by decide +kernel
theorem lA_153 : ln 153 = 2 := by decide +kernel
theorem tA_154 : tg 154 = 12 := by decide +kernel
theorem lA_154 : ln 154 = 2 := by decide +kernel
/-- where the tanks are -/
def Tb (b : Nat) : Prop := b = 9 ∨ b = 33 ∨ b = 53 ∨ b = 73 ∨ b = 93 ∨ b = 113 ∨ b = 133 ∨ b = 155 ∨ b = 175 ∨ b = 195 ∨ b = 215
theorem Tb.t0 {b : Nat} (h : Tb b) : tg (b + 0) = 4 ∧ ln (b + 0) = 8 := by
  rcases h with rfl | rfl | rfl | rfl | rfl | rfl | rfl | rfl | rfl | rfl | rfl <;> decide +kernel
theorem Tb.t1 {b : Nat} (h : Tb b) : tg (b + 1) = 10 ∧ ln (b + 1) = 3 := by
  rcases h with rfl | rfl | rfl | rfl | rfl | rfl | rfl | rfl | rfl | rfl | rfl <;> decide +kernel
theorem Tb.t2 {b : Nat} (h : Tb b) : tg (b + 2) = 10 ∧ ln (b + 2) = 40 := by
  rcases h with rfl | rfl | rfl | rfl | rfl | rfl | rfl | rfl | rfl | rfl | rfl <;> decide +kernel
theorem Tb.t3 {b : Nat} (h : Tb b) : tg (b + 3) = 10 ∧ ln (b + 3) = 40 := by
  rcases h with rfl | rfl | rfl | rfl | rfl | rfl | rfl | rfl | rfl | rfl | rfl <;> decide +kernel
theorem Tb.t4 {b : Nat} (h : Tb b) : tg (b + 4) = 14 ∧ ln (b + 4) = 6 := by
  rcases h with rfl | rfl | rfl | rfl | rfl | rfl | rfl | rfl | rfl | rfl | rfl <;> decide +kernel
theorem Tb.t5 {b : Nat} (h : Tb b) : tg (b + 5) = 15 ∧ ln (b + 5) = 4 := by
  rcases h with rfl | rfl | rfl | rfl | rfl | rfl | rfl | rfl | rfl | rfl | rfl <;> decide +kernel
theorem Tb.t6 {b : Nat} (h : Tb b) : tg (b + 6) = 3 ∧ ln (b + 6) = 6 := by
  rcases h with rfl | rfl | rfl | rfl | rfl | rfl | rfl | rfl | rfl | rfl | rfl <;> decide +kernel
theorem Tb.t7 {b : Nat} (h : Tb b) : tg (b + 7) = 3 ∧ ln (b + 7) = 6 := by
  rcases h with rfl | rfl | rfl | rfl | rfl | rfl | rfl | rfl | rfl | rfl | rfl <;> decide +kernel
theorem Tb.t8 {b : Nat} (h : Tb b) : tg (b + 8) = 3 ∧ ln (b + 8) = 6 := by
  rcases h with rfl | rfl | rfl | rfl | rfl | rfl | rfl | rfl | rfl | rfl | rfl <;> decide +kernel
theorem Tb.t9 {b : Nat} (h : Tb b) : tg (b + 9) = 3 ∧ ln (b + 9) = 6 := by
  rcases h with rfl | rfl | rfl | rfl | rfl | rfl | rfl | rfl | rfl | rfl | rfl <;> decide +kernel
theorem Tb.t10 {b : Nat} (h : Tb b) : tg (b + 10) = 3 ∧ ln (b + 10) = 6 := by
  rcases h with rfl | rfl | rfl | rfl | rfl | rfl | rfl | rfl | rfl | rfl | rfl <;> decide +kernel
theorem Tb.t11 {b : Nat} (h : Tb b) : tg (b + 11) = 3 ∧ ln (b + 11) = 6 := by
  rcases h with rfl | rfl | rfl | rfl | rfl | rfl | rfl | rfl | rfl | rfl | rfl <;> decide +kernel
theorem Tb.t12 {b : Nat} (h : Tb b) : tg (b + 12) = 0 ∧ ln (b + 12) = 4 := by
  rcases h with rfl | rfl | rfl | rfl | rfl | rfl | rfl | rfl | rfl | rfl | rfl <;> decide +kernel
theorem Tb.t13 {b : Nat} (h : Tb b) : tg (b + 13) = 10 ∧ ln (b + 13) = 60 := by
  rcases h with rfl | rfl | rfl | rfl | rfl | rfl | rfl | rfl | rfl | rfl | rfl <;> decide +kernel
theorem Tb.t14 {b : Nat} (h : Tb b) : tg (b + 14) = 0 ∧ ln (b + 14) = 4 := by
  rcases h with rfl | rfl | rfl | rfl | rfl | rfl | rfl | rfl | rfl | rfl | rfl <;> decide +kernel
theorem Tb.t15 {b : Nat} (h : Tb b) : tg (b + 15) = 10 ∧ ln (b + 15) = 60 := by
  rcases h with rfl | rfl | rfl | rfl | rfl | rfl | rfl | rfl | rfl | rfl | rfl <;> decide +kernel
theorem Tb.t16 {b : Nat} (h : Tb b) : tg (b + 16) = 0 ∧ ln (b + 16) = 4 := by
  rcases h with rfl | rfl | rfl | rfl | rfl | rfl | rfl | rfl | rfl | rfl | rfl <;> decide +kernel
theorem Tb.t17 {b : Nat} (h : Tb b) : tg (b + 17) = 10 ∧ ln (b + 17) = 60 := by
  rcases h with rfl | rfl | rfl | rfl | rfl | rfl | rfl | rfl | rfl | rfl | rfl <;> decide +kernel
theorem Tb.t18 {b : Nat} (h : Tb b) : tg (b + 18) = 0 ∧ ln (b + 18) = 4 := by
  rcases h with rfl | rfl | rfl | rfl | rfl | rfl | rfl | rfl | rfl | rfl | rfl <;> decide +kernel
theorem Tb.t19 {b : Nat} (h : Tb b) : tg (b + 19) = 10 ∧ ln (b + 19) = 60 := by
  rcases h with rfl | rfl | rfl | rfl | rfl | rfl | rfl | rfl | rfl | rfl | rfl <;> decide +kernel
theorem Tb.lt {b : Nat} (h : Tb b) : 9 ≤ b ∧ b + 20 ≤ 235 := by
  unfold Tb at h
  omega
theorem Tb.tp {b k : Nat} (h : Tb b) (h1 : b + 6 ≤ k) (h2 : k < b + 12) : tg k = 3 ∧ ln k = 6 := by
  obtain rfl | rfl | rfl | rfl | rfl | rfl : k = b + 6 ∨ k = b + 7 ∨ k = b + 8 ∨ k = b + 9 ∨ k = b + 10 ∨ k = b + 11 := by omega
  · exact h.t6
  · exact h.t7
  · exact h.t8
  · exact h.t9
  · exact h.t10
  · exact h.t11
theorem Tb.tg0 {b g : Nat} (h : Tb b) (hg : g < 4) : tg (b + 12 + 2 * g) = 0 ∧ ln (b + 12 + 2 * g) = 4 := by
  obtain rfl | rfl | rfl | rfl : g = 0 ∨ g = 1 ∨ g = 2 ∨ g = 3 := by omega
  · exact h.t12
  · exact h.t14
  · exact h.t16
  · exact h.t18
theorem Tb.tg1 {b g : Nat} (h : Tb b) (hg : g < 4) : tg (b + 13 + 2 * g) = 10 ∧ ln (b + 13 + 2 * g) = 60 := by
  obtain rfl | rfl | rfl | rfl : g = 0 ∨ g = 1 ∨ g = 2 ∨ g = 3 := by omega
  · exact h.t13
  · exact h.t15
  · exact h.t17
  · exact h.t19
theorem tA_235 : tg 235 = 10 := by decide +kernel
theorem lA_235 : ln 235 = 5 := by decide +kernel
theorem tA_236 : tg 236 = 10 := by decide +kernel
theorem lA_236 : ln 236 = 40 := by decide +kernel
theorem tA_237 : tg 237 = 10 := by decide +kernel
theorem lA_237 : ln 237 = 40 := by decide +kernel
theorem tA_238 : tg 238 = 10 := by decide +kernel
theorem lA_238 : ln 238 = 36 := by decide +kernel
theorem tA_239 : tg 239 = 10 := by decide +kernel
theorem lA_239 : ln 239 = 30 := by decide +kernel
theorem tA_240 : tg 240 = 10 := by decide +kernel
theorem lA_240 : ln 240 = 2 := by decide +kernel
theorem tA_241 : tg 241 = 10 := by decide +kernel
theorem lA_241 : ln 241 = 60 := by decide +kernel
theorem tA_242 : tg 242 = 10 := by decide +kernel
theorem lA_242 : ln 242 = 5 := by decide +kernel
theorem tA_243 : tg 243 = 10 := by decide +kernel
theorem lA_243 : ln 243 = 40 := by decide +kernel
theorem tA_244 : tg 244 = 10 := by decide +kernel
theorem lA_244 : ln 244 = 40 := by decide +kernel
theorem tA_245 : tg 245 = 10 := by decide +kernel
theorem lA_245 : ln 245 = 36 := by decide +kernel
theorem tA_246 : tg 246 = 10 := by decide +kernel
theorem lA_246 : ln 246 = 30 := by decide +kernel
