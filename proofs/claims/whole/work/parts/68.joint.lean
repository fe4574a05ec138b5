/-! CLASS AND MODEL BETWEEN CALLS -/
theorem Ok0.c370 {sg ro : Nat → Int32} {np ng : Nat} (h : Ok0 sg np ng) (e : ∀ j, j < 370 → ro j = sg j) : Ok0 ro np ng := by
  obtain ⟨⟨a1, a2⟩, ⟨b1, b2⟩, hp, hs, hg, c1, c2, c3⟩ := h
  refine ⟨⟨by rw [e 4 (by omega)]; exact a1, a2⟩, ⟨by rw [e 5 (by omega)]; exact b1, b2⟩, fun k hk => ?_, fun i j hi hj => ?_, fun g hgn => ?_, by rw [e 0 (by omega)]; exact c1, by rw [e 1 (by omega)]; exact c2, by rw [e 2 (by omega)]; exact c3⟩
  · have := hp k hk
    unfold PdOk at this ⊢
    rw [e _ (by omega), e _ (by omega), e _ (by omega), e _ (by omega), e _ (by omega), e _ (by omega)]
    exact this
  · have := hs i j hi hj
    unfold cel at this ⊢
    rw [e _ (by omega), e _ (by omega)]
    exact this
  · obtain ⟨h1, m, h2, h3, h4⟩ := hg g hgn
    exact ⟨by rw [e _ (by omega)]; exact h1, m, h2, by rw [e _ (by omega)]; exact h3, fun i hi => by rw [e _ (by omega)]; exact h4 i hi⟩
theorem OkS.c370 {sg ro : Nat → Int32} (h : OkS sg) (e : ∀ j, j < 370 → ro j = sg j) : OkS ro :=
  OkS.of (h.1.c370 e) (h.2.same fun j _ _ => e j (by omega))
theorem nP_c {sg ro : Nat → Int32} (e : ∀ j, j < 370 → ro j = sg j) : nP ro = nP sg ∧ nG ro = nG sg := by
  unfold nP nG
  rw [e 4 (by omega), e 5 (by omega)]
  exact ⟨rfl, rfl⟩
theorem Tk.c370 {M : Mm} {R : Rm} {b : Nat} {sg ro : Nat → Int32} (h : Tk M R b (nP sg) (nG sg) sg) (ho : OkS sg) (e : ∀ j, j < 370 → ro j = sg j) : Tk M R b (nP ro) (nG ro) ro := by
  rw [(nP_c e).1, (nP_c e).2]
  exact h.sgc ho.p6 ho.g4 e
/-- the coupling speaks of the class's cells alone, and of the rows' first 370 numbers -/
theorem IC.cong {M M1 : Mm} {R : Rm} {sg so tx ty F F2 : Nat → Int32} {rc pl : Nat} {hs h2 S S2 : Nat → Nat → Int32} (h : IC M R sg rc hs F S tx pl) (e0 : ∀ a, a < 235 → M1 a = M a) (e1 : ∀ j, j < 370 → so j = sg j) (e2 : ∀ i, i < rc → ∀ j, j < 370 → h2 i j = hs i j) (e3 : ∀ t, t < 2 → F2 t = F t) (e4 : ∀ t, t < 2 → ¬ F t = 0 → ∀ j, j < 370 → S2 t j = S t j) (e5 : ∀ i, i < pl → ty i = tx i) : IC M1 R so rc h2 F2 S2 ty pl := by
  have g := h.ib.gr
  refine ⟨(h.tk.frame g.r9 h.ok.p6 h.ok.g4 fun a _ _ => ⟨e0 a (by omega), rfl⟩).c370 h.ok e1, h.ok.c370 e1, g, h.ib.2.1, ⟨by rw [e0 31 (by omega)]; exact h.ib.hi.1, fun i hi => ?_⟩, fun i hi => (h.ib.ho i hi).c370 (e2 i hi), fun t ht => ?_, by rw [e0 29 (by omega)]; exact h.ib.hp, fun i hi => by rw [e0 30 (by omega), e5 i hi]; exact h.ib.pt hi⟩
  · have h6 := h.ib.h6
    have hr := g.rh.rng (i := i) (by omega)
    have ho := h.ib.ho i hi
    exact ((h.ib.hi.2 i hi).frame (g.rh.rt g.rG (by omega)) ho.p6 ho.g4 fun a _ _ => ⟨e0 a (by omega), rfl⟩).c370 ho (e2 i hi)
  · obtain ⟨k1, k2, k3⟩ := h.ib.sl ht
    refine ⟨by rw [e0 154 (by omega), e3 t ht]; exact k1, by rw [e3 t ht]; exact k2, fun hn => ?_⟩
    rw [e3 t ht] at hn
    obtain ⟨k4, k5⟩ := k3 hn
    exact ⟨k4.c370 (e4 t ht hn), (k5.frame (g.rS ht) k4.p6 k4.g4 fun a _ _ => ⟨e0 a (by omega), rfl⟩).c370 k4 (e4 t ht hn)⟩
def hsR (M : Mm) : Nat → Nat → Int32 := fun i j => M 238 (370 * i + j)
def slR (M : Mm) : Nat → Nat → Int32 := fun t j => M 239 (370 * t + j)
/-- class and model stand alike -/
def Inv (M : Mm) (R : Rm) : Prop := ∃ rc pl, M 235 3 = nI rc ∧ M 235 7 = nI pl ∧ RM R ∧ IC M R (M 236) rc (hsR M) (M 240) (slR M) (M 241) pl
section
variable {M M1 M2 M3 : Mm} {R R1 : Rm} {so tx F : Nat → Int32} {rc pl rd pm : Nat} {hs S : Nat → Nat → Int32}
theorem RM.fc (h : RM R) (f : FC M M1 R R1) : RM R1 := by
  unfold RM at *
  rw [(f 235 (by omega)).2]
  exact h
theorem Inv.mk (c : IC M1 R1 so rd hs F S tx pm) (hM : RM R1) (e0 : ∀ a, a < 235 → M3 a = M1 a) (e3 : M3 235 3 = nI rd) (e7 : M3 235 7 = nI pm) (e6 : ∀ j, j < 370 → M3 236 j = so j) (e8 : ∀ i, i < rd → ∀ j, j < 370 → hsR M3 i j = hs i j) (e240 : ∀ t, t < 2 → M3 240 t = F t) (e9 : ∀ t, t < 2 → ¬ F t = 0 → ∀ j, j < 370 → slR M3 t j = S t j) (e1 : ∀ i, i < pm → M3 241 i = tx i) : Inv M3 R1 :=
  ⟨rd, pm, e3, e7, hM, c.cong e0 e6 e8 e240 e9 e1⟩
/-- what the model's reads leave -/
def VM (M M3 : Mm) : Prop := (∀ a, a ≠ 235 → a ≠ 237 → a ≠ 242 → M3 a = M a) ∧ M3 235 3 = M 235 3 ∧ M3 235 7 = M 235 7
theorem VM.rf (M : Mm) : VM M M := ⟨fun _ _ _ _ => rfl, rfl, rfl⟩
theorem VM.u237 (M : Mm) (X : Nat → Int32) : VM M (up M 237 X) := ⟨fun a _ h _ => up_n _ _ h, by rw [up_n _ _ (by decide)], by rw [up_n _ _ (by decide)]⟩
theorem PS.vm {nb : Nat → Int32} {a m : Nat} {lt sx : Int32} (h : PS M M1 tx pl a m nb lt sx) : VM M M1 := ⟨fun a h1 _ h2 => h.1 a h1 h2, h.2.1 3 (by decide) (by decide) (by decide) (by decide), h.2.1 7 (by decide) (by decide) (by decide) (by decide)⟩
/-- nothing changed: class at M1, then the model's reads -/
theorem Inv.kp (hM : RM R) (hrc : M 235 3 = nI rc) (hpl : M 235 7 = nI pl) (f : FC M M1 R R1) (c : IC M1 R1 (M 236) rc (hsR M) (M 240) (slR M) (M 241) pl) (v : VM M1 M3) : Inv M3 R1 := by
  refine Inv.mk c (hM.fc f) (fun a ha => v.1 a (by omega) (by omega) (by omega)) (by rw [v.2.1, (f 235 (by omega)).1]; exact hrc) (by rw [v.2.2, (f 235 (by omega)).1]; exact hpl) (fun j _ => by rw [v.1 236 (by decide) (by decide) (by decide), (f 236 (by omega)).1]) (fun i _ j _ => ?_) (fun t _ => by rw [v.1 240 (by decide) (by decide) (by decide), (f 240 (by omega)).1]) (fun t _ _ j _ => ?_) (fun i _ => by rw [v.1 241 (by decide) (by decide) (by decide), (f 241 (by omega)).1])
  · show M3 238 _ = M 238 _
    rw [v.1 238 (by decide) (by decide) (by decide), (f 238 (by omega)).1]
  · show M3 239 _ = M 239 _
    rw [v.1 239 (by decide) (by decide) (by decide), (f 239 (by omega)).1]
/-- a change: class at M1, the model's record at M2 -/
theorem Inv.rec (hM : RM R) (h6 : rc ≤ 6) (hpl : M 235 7 = nI pl) (f : FC M M1 R R1) (c : IC M1 R1 so (rcN rc) (pshH rc (hsR M) (M 236)) (M 240) (slR M) (M 241) pl) (hp : HP M1 M2 rc) (X : Nat → Int32) (eX : ∀ j, j < 370 → X j = so j) : Inv (up M2 236 X) R1 := by
  obtain ⟨g1, g2, g3, g4, g5⟩ := hp
  have e6 : M1 236 = M 236 := (f 236 (by omega)).1
  have e8 : M1 238 = M 238 := (f 238 (by omega)).1
  refine Inv.mk c (hM.fc f) (fun a ha => by rw [up_n _ _ (by omega), g1 a (by omega) (by omega)]) (by rw [up_n _ _ (by omega), g3]; rfl) (by rw [up_n _ _ (by omega), g2 7 (by omega), (f 235 (by omega)).1]; exact hpl) (fun j hj => by rw [up_s]; exact eX j hj) (fun i hi j hj => ?_) (fun t _ => by rw [up_n _ _ (by omega), g1 240 (by omega) (by omega), (f 240 (by omega)).1]) (fun t _ _ j _ => ?_) (fun i _ => by rw [up_n _ _ (by omega), g1 241 (by omega) (by omega), (f 241 (by omega)).1])
  · show (up M2 236 X) 238 _ = (if i = (if rc = 6 then 5 else rc) then M 236 else hsR M (if rc = 6 then i + 1 else i)) j
    rw [up_n _ _ (by omega)]
    unfold rcN at hi
    by_cases e : rc = 6
    · subst e
      rw [if_pos rfl] at hi g5 g4
      rw [if_pos rfl, if_pos rfl]
      by_cases e2 : i = 5
      · subst e2
        rw [if_pos rfl, g5 j hj, e6]
      · have := g4 i j hj (by omega)
        rw [if_pos rfl] at this
        rw [if_neg e2, this, e8]
        rfl
    · rw [if_neg e] at hi g5 g4
      rw [if_neg e, if_neg e]
      by_cases e2 : i = rc
      · subst e2
        rw [if_pos rfl, g5 j hj, e6]
      · have := g4 i j hj (by omega)
        rw [if_neg e] at this
        rw [if_neg e2, this, e8]
        rfl
  · show (up M2 236 X) 239 _ = M 239 _
    rw [up_n _ _ (by omega), g1 239 (by omega) (by omega), (f 239 (by omega)).1]
end
theorem lgc_self (x : Int64) : lg_cmp x x = 0 := by
  unfold lg_cmp
  rw [if_neg (fun h => Int64.lt_irrefl h), if_pos rfl]
theorem OkS.n4 {sg : Nat → Int32} (h : OkS sg) : sg 4 = nI (nP sg) := h.1.1.1
theorem OkS.n5 {sg : Nat → Int32} (h : OkS sg) : sg 5 = nI (nG sg) := h.1.2.1.1
