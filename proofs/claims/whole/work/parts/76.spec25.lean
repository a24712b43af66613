theorem gRho_pa {π ρ : gPS} {L : gLf} {n d : Nat} (h : gRho π ρ) : gRho (gPa π L n d) ρ := by
  have r : ∀ a, a ≠ 15 → a ≠ 4 → a ≠ 5 → a ≠ 6 → (gPa π L n d) a = π a := by
    intro a h15 h4 h5 h6
    induction d with
    | zero => rfl
    | succ d ih => rw [gPa, gMn_r h6, gDay_r h15 h4 h5 h6, ih]
  unfold gRho
  rw [gPa_15 (by decide) (by decide), gPa_15 (by decide) (by decide), gPa_15 (by decide) (by decide), r 8 (by decide) (by decide) (by decide) (by decide), r 9 (by decide) (by decide) (by decide) (by decide), r 10 (by decide) (by decide) (by decide) (by decide), r 11 (by decide) (by decide) (by decide) (by decide), r 12 (by decide) (by decide) (by decide) (by decide), r 13 (by decide) (by decide) (by decide) (by decide), r 14 (by decide) (by decide) (by decide) (by decide)]
  exact h
