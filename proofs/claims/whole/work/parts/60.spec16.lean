/-! A LOFT OF THE CLASS, WHATEVER ITS NUMBERS HOLD -/
theorem gSg_agr {G : gW} {b n : Nat} {cA : ClassId} {L : List va_E} {H : Heap} {V E : Nat → Int32} (h : gSg G b L H) (k : Nat) (hk : L[k]? = some (.inl (cA, n, .inl V))) (ha : gAgr (fun j => j < n) V E) : gSg G b (L.set k (.inl (cA, n, .inl E))) H := gSg_set h k (gAt_agr ha (h k _ hk)) (fun _ _ => rfl)
/-- a Loft's cells -/
def gC4 (G : gW) (lp : Nat) (f : gPS) (H : Heap) : Prop := ∃ s4 : Nat → Int32, gSg G lp (gLL G lp (gR f 4 s4)) H
theorem gClo_w {f : gPS} {acc : List (Nat × Nat × List Nat)} (h : gClo f acc) : ∃ wn : Nat, wn ≤ 10 ∧ wn = (gWg acc).length ∧ f 5 3 = nI wn ∧ f 5 4 = gRs (gLof acc) acc.length ∧ (∀ i, i ≤ wn → f 3 i = nI (gOf (gWg acc) i)) ∧ ∀ i, i < wn → f 2 i = gSgn ((gWg acc).getD i (0, 0, [])).1 ((gWg acc).getD i (0, 0, [])).2.1 ∧ (∀ q, q < ((gWg acc).getD i (0, 0, [])).2.2.length → f 1 (gOf (gWg acc) i + q) = gStp (((gWg acc).getD i (0, 0, [])).2.2.getD q 0)) ∧ gOf (gWg acc) i + ((gWg acc).getD i (0, 0, [])).2.2.length ≤ 100 ∧ gRun ((gWg acc).getD i (0, 0, [])).2.2 0 = true := by
  obtain ⟨h10, wn, c, h1, h2, h3, h4, h5, h6, h7, h8⟩ := h
  refine ⟨wn, by omega, h5, h3, h4, fun i hi => ?_, fun i hi => ?_⟩
  · cases i with
    | zero => exact h7
    | succ i => exact (h8 i hi).2.1
  · obtain ⟨a1, a2, a3, a4⟩ := h8 i hi
    refine ⟨a1, a3, ?_, a4⟩
    have := gOf_le (B := gWg acc) (i := i + 1) (j := wn) hi
    rw [gOf] at this
    omega
