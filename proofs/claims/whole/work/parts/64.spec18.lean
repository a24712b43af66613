/-! A STATE WITH ITS KINDS AND THE LOFT THAT HOLDS -/
/-- a State of the class: its cells, its kinds, the loft in force -/
def gSt (G : gW) (t lp : Nat) (π ρ f : gPS) (H : Heap) : Prop := gSg G t (gLS G t π lp ρ) H ∧ gSg G (t + 28) (gKk G (t + 28)) H ∧ gC4 G lp f H
theorem gDs_r {π : gPS} {L : gLf} {n a : Nat} (h15 : a ≠ 15) (h4 : a ≠ 4) (h5 : a ≠ 5) (h6 : a ≠ 6) : ∀ k : Nat, (gDs π L n k) a = π a
  | 0 => rfl
  | k + 1 => by rw [gDs, gDay_r h15 h4 h5 h6, gDs_r h15 h4 h5 h6 k]
