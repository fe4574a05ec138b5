/-! THE CLASS: texts, undo, saved states -/
section
variable {M M1 : Mm} {R : Rm} {sg tx ty F : Nat → Int32} {rc pl e : Nat} {hs S : Nat → Nat → Int32}
/-- another text -/
theorem IC.txt (h : IC M R sg rc hs F S tx pl) (he : e ≤ 80) (g : ∀ a, a ≠ 29 → a ≠ 30 → M1 a = M a) (g1 : M1 29 1 = nI e) (g2 : ∀ i, i < e → M1 30 i = ty i) : IC M1 R sg rc hs F S ty e :=
  ⟨h.tk.frame h.ib.gr.r9 h.ok.p6 h.ok.g4 fun a _ _ => ⟨g a (by omega) (by omega), rfl⟩, h.ok, h.ib.gr, ⟨h.ib.h6, he⟩, h.ib.hi.fr h.ib.gr.rh h.ib.gr.rG h.ib.h6 h.ib.ho (by rw [g 31 (by omega) (by omega)]) rfl (fun a _ _ => ⟨g a (by omega) (by omega), rfl⟩), h.ib.ho, fun t ht => (h.ib.sl ht).fr (h.ib.gr.rS ht) (g 154 (by omega) (by omega)) (fun a _ _ => ⟨g a (by omega) (by omega), rfl⟩), g1, g2⟩
end
theorem rcN_le {rc : Nat} (h : rc ≤ 6) : rcN rc ≤ 6 := by
  unfold rcN
  split <;> omega
theorem psh_ok {rc : Nat} {hs : Nat → Nat → Int32} {sg : Nat → Int32} (h6 : rc ≤ 6) (ho : ∀ i, i < rc → OkS (hs i)) (h : OkS sg) : ∀ i, i < rcN rc → OkS (pshH rc hs sg i) := by
  intro i hi
  unfold rcN at hi
  show OkS (if i = (if rc = 6 then 5 else rc) then sg else hs (if rc = 6 then i + 1 else i))
  by_cases e : rc = 6
  · rw [if_pos e] at hi ⊢
    rw [if_pos e]
    by_cases e2 : i = 5
    · rw [if_pos e2]
      exact h
    · rw [if_neg e2]
      exact ho _ (by omega)
  · rw [if_neg e] at hi ⊢
    rw [if_neg e]
    by_cases e2 : i = rc
    · rw [if_pos e2]
      exact h
    · rw [if_neg e2]
      exact ho _ (by omega)
