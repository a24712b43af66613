/-! CLAUSES AND LOFTS, in our words -/
theorem gAll_fit {t : Nat → Int32} {n i : Nat} : ∀ (d k p : Nat), p ≤ n → p ≤ (gAll t n i d k p).2 ∧ (gAll t n i d k p).2 ≤ n := by
  intro d
  induction d with
  | zero => intro k p hp; exact ⟨Nat.le_refl _, hp⟩
  | succ d ih =>
    intro k p hp
    rw [gAll]
    split
    · rename_i h
      have h1 := h.1
      obtain ⟨a, b⟩ := ih (k + 1) (p + 1) (by omega)
      exact ⟨by omega, b⟩
    · exact ⟨Nat.le_refl _, hp⟩
/-- a clause of the kind w (0 glad, 1 grim, 2 rest): is it one, the place behind it, its number, its tokens -/
def gClw (t : Nat → Int32) (n w p : Nat) : Bool × Nat × Nat × List Nat := if (gAll t n (5 + w) (gLen.getD (5 + w) 0) 0 p).1 = true then (if (gNum t n (gAll t n (5 + w) (gLen.getD (5 + w) 0) 0 p).2).1 = true then (if w = 2 then (true, (gNum t n (gAll t n (5 + w) (gLen.getD (5 + w) 0) 0 p).2).2.1, (gNum t n (gAll t n (5 + w) (gLen.getD (5 + w) 0) 0 p).2).2.2, []) else if (gNum t n (gAll t n (5 + w) (gLen.getD (5 + w) 0) 0 p).2).2.1 < n ∧ t (gNum t n (gAll t n (5 + w) (gLen.getD (5 + w) 0) 0 p).2).2.1 = 32 then ((gE t n 4 ((gNum t n (gAll t n (5 + w) (gLen.getD (5 + w) 0) 0 p).2).2.1 + 1)).1, (gE t n 4 ((gNum t n (gAll t n (5 + w) (gLen.getD (5 + w) 0) 0 p).2).2.1 + 1)).2.1, (gNum t n (gAll t n (5 + w) (gLen.getD (5 + w) 0) 0 p).2).2.2, (gE t n 4 ((gNum t n (gAll t n (5 + w) (gLen.getD (5 + w) 0) 0 p).2).2.1 + 1)).2.2) else (false, (gNum t n (gAll t n (5 + w) (gLen.getD (5 + w) 0) 0 p).2).2.1, 0, [])) else (false, (gNum t n (gAll t n (5 + w) (gLen.getD (5 + w) 0) 0 p).2).2.1, 0, [])) else (false, (gAll t n (5 + w) (gLen.getD (5 + w) 0) 0 p).2, 0, [])
def gClk (t : Nat → Int32) (n p : Nat) : Nat := if p < n ∧ t p = 103 then (if p + 1 < n ∧ t (p + 1) = 114 then 1 else 0) else if p < n ∧ t p = 114 then 2 else 3
def gKl (t : Nat → Int32) (n p : Nat) : Bool × Nat × Nat × List Nat := if gClk t n p = 3 then (false, p, 0, []) else gClw t n (gClk t n p) p
/-- all but what is told of the clause j stays -/
def gFr (j : Nat) (f f9 : gPS) : Prop := ∀ a k, ¬ (k = j ∧ 2 ≤ a ∧ a ≤ 5) → f9 a k = f a k
theorem gFr_0 {j : Nat} {f : gPS} : gFr j f f := fun _ _ _ => rfl
theorem gFr_u {j r : Nat} {f f9 : gPS} {x : Int32} (h : gFr j f f9) (h2 : 2 ≤ r) (h5 : r ≤ 5) : gFr j f (gU f9 r j x) := by
  intro a k hk
  by_cases e : a = r
  · subst e
    rw [gU_o (by intro z; exact hk ⟨z, h2, h5⟩)]
    exact h a k hk
  · rw [gU_ne e]
    exact h a k hk
