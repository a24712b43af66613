/-! THE CLASS'S WAY THROUGH A CLAUSE'S WORD -/
theorem gAll_sh {t : Nat → Int32} {n i i' : Nat} : ∀ (d k k' p : Nat), (∀ j, j < d → gChr i (k + j) = gChr i' (k' + j)) → gAll t n i d k p = gAll t n i' d k' p := by
  intro d
  induction d with
  | zero => intro k k' p _; rfl
  | succ d ih =>
    intro k k' p h
    rw [gAll, gAll, show gChr i k = gChr i' k' from h 0 (by omega)]
    rw [ih (k + 1) (k' + 1) (p + 1) (fun j hj => by have := h (j + 1) (by omega); rw [show k + 1 + j = k + (j + 1) by omega, show k' + 1 + j = k' + (j + 1) by omega]; exact this)]
theorem gAll_rest {t : Nat → Int32} {n p : Nat} : gAll t n 7 5 0 p = if p < n ∧ t p = 114 then gAll t n 2 4 0 (p + 1) else (false, p) := by
  rw [gAll, show gChr 7 0 = 114 from rfl, gAll_sh (i := 7) (i' := 2) 4 (0 + 1) 0 (p + 1) (by decide)]
theorem gAll_grim {t : Nat → Int32} {n p : Nat} : gAll t n 6 5 0 p = if p < n ∧ t p = 103 then gAll t n 4 4 0 (p + 1) else (false, p) := by
  rw [gAll, show gChr 6 0 = 103 from rfl, gAll_sh (i := 6) (i' := 4) 4 (0 + 1) 0 (p + 1) (by decide)]
theorem gAll_glad {t : Nat → Int32} {n p : Nat} : gAll t n 5 5 0 p = if p < n ∧ t p = 103 then (if p + 1 < n ∧ t (p + 1) = 108 then gAll t n 3 3 0 (p + 1 + 1) else (false, p + 1)) else (false, p) := by
  rw [gAll, show gChr 5 0 = 103 from rfl, gAll, show gChr 5 (0 + 1) = 108 from rfl, gAll_sh (i := 5) (i' := 3) 3 (0 + 1 + 1) 0 (p + 1 + 1) (by decide)]
/-- a clause as the class reads its word: is it one so far, the place behind the word, its kind -/
def gWd (t : Nat → Int32) (n p : Nat) : Bool × Nat × Nat := if p < n ∧ t p = 114 then ((gAll t n 2 4 0 (p + 1)).1, (gAll t n 2 4 0 (p + 1)).2, 2) else if p < n ∧ t p = 103 then (if p + 1 < n ∧ t (p + 1) = 108 then ((gAll t n 3 3 0 (p + 1 + 1)).1, (gAll t n 3 3 0 (p + 1 + 1)).2, 0) else ((gAll t n 4 4 0 (p + 1)).1, (gAll t n 4 4 0 (p + 1)).2, 1)) else (false, p, 3)
/-- the class comes where the reference comes -/
theorem gWd_e (t : Nat → Int32) (n p : Nat) : (gClk t n p = 3 ∧ gWd t n p = (false, p, 3)) ∨ (gClk t n p < 3 ∧ (gWd t n p).1 = (gAll t n (5 + gClk t n p) (gLen.getD (5 + gClk t n p) 0) 0 p).1 ∧ (gWd t n p).2.1 = (gAll t n (5 + gClk t n p) (gLen.getD (5 + gClk t n p) 0) 0 p).2 ∧ ((gWd t n p).1 = true → (gWd t n p).2.2 = gClk t n p)) := by
  unfold gWd gClk
  by_cases h1 : p < n ∧ t p = 103
  · have h2 : ¬ (p < n ∧ t p = 114) := fun z => absurd (h1.2.symm.trans z.2) (by decide)
    simp only [if_neg h2, if_pos h1]
    by_cases h3 : p + 1 < n ∧ t (p + 1) = 114
    · have h4 : ¬ (p + 1 < n ∧ t (p + 1) = 108) := fun z => absurd (h3.2.symm.trans z.2) (by decide)
      simp only [if_neg h4, if_pos h3]
      refine Or.inr ⟨by decide, ?_⟩
      have e : gAll t n (5 + 1) (gLen.getD (5 + 1) 0) 0 p = gAll t n 4 4 0 (p + 1) := by
        show gAll t n 6 5 0 p = _
        rw [gAll_grim, if_pos h1]
      rw [e]
      exact ⟨by first | trivial | rfl, by first | trivial | rfl, fun _ => by first | trivial | rfl⟩
    · simp only [if_neg h3]
      refine Or.inr ⟨by decide, ?_⟩
      have e0 : gAll t n (5 + 0) (gLen.getD (5 + 0) 0) 0 p = if p + 1 < n ∧ t (p + 1) = 108 then gAll t n 3 3 0 (p + 1 + 1) else (false, p + 1) := by
        show gAll t n 5 5 0 p = _
        rw [gAll_glad, if_pos h1]
      rw [e0]
      by_cases h4 : p + 1 < n ∧ t (p + 1) = 108
      · simp only [if_pos h4]
        exact ⟨by first | trivial | rfl, by first | trivial | rfl, fun _ => by first | trivial | rfl⟩
      · simp only [if_neg h4]
        have e4 : gAll t n 4 4 0 (p + 1) = (false, p + 1) := by
          rw [gAll, show gChr 4 0 = 114 from rfl, if_neg h3]
        rw [e4]
        exact ⟨by first | trivial | rfl, by first | trivial | rfl, fun z => absurd (show false = true from z) (by decide)⟩
  · simp only [if_neg h1]
    by_cases h2 : p < n ∧ t p = 114
    · simp only [if_pos h2]
      refine Or.inr ⟨by decide, ?_⟩
      have e : gAll t n (5 + 2) (gLen.getD (5 + 2) 0) 0 p = gAll t n 2 4 0 (p + 1) := by
        show gAll t n 7 5 0 p = _
        rw [gAll_rest, if_pos h2]
      rw [e]
      exact ⟨by first | trivial | rfl, by first | trivial | rfl, fun _ => by first | trivial | rfl⟩
    · simp only [if_neg h2]
      exact Or.inl ⟨by first | trivial | rfl, by first | trivial | rfl⟩
