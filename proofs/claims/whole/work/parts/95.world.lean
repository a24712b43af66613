/-! THE WORLD of the law: the object at B (156 cells), the reference at b (30 cells), one state of both -/
abbrev gLd : Type := List (Nat × Nat × List Nat)
/-- the loft that a state holds: its number, its place, what it says -/
def gLk (B lc : Nat) (A : Nat → gLd) (π : gPS) (lp : Nat) (acc : gLd) : Prop := (π 15 6 = -1 ∧ acc = [] ∧ (lp = B + 23 ∨ lp = B + 58 ∨ lp = B + 93)) ∨ ∃ h, h < lc ∧ π 15 6 = nI h ∧ lp = B + 107 + 13 + 6 * h ∧ acc = A h
/-- the lofts of the object: those taken, those to come, the three that say nothing -/
def gLfs (G : gW) (B lc : Nat) (A : Nat → gLd) (H : Heap) : Prop := (∀ i, i < lc → ∃ f, gC4 G (B + 107 + 13 + 6 * i) f H ∧ gClo f (A i)) ∧ (∀ i, lc ≤ i → i < 6 → ∃ f : gPS, gSg G (B + 107 + 13 + 6 * i) (gLL G (B + 107 + 13 + 6 * i) f) H ∧ f 3 0 = 0) ∧ (∀ a, a = B + 23 ∨ a = B + 58 ∨ a = B + 93 → ∃ f, gC4 G a f H ∧ gClo f [])
/-- the object -/
def gWC (G : gW) (B lp lk : Nat) (π πk μ α : gPS) (g : Nat → Int64) (lc : Nat) (A : Nat → gLd) (H : Heap) : Prop := gCN G B lp π lk πk μ α g H ∧ gLfs G B lc A H
/-- the reference's lofts -/
def gRL (f : gPS) (lc : Nat) (A : Nat → gLd) : Prop := ∃ o c : Nat, o ≤ 4 ∧ c ≤ 100 * lc ∧ f 13 4 = nI o ∧ f 13 6 = nI c ∧ ∀ i, i < lc → (A i).length ≤ 10 ∧ f 1 i = nI (A i).length ∧ gAcc (A i) (10 * i) c f (f 6)
theorem gLfs_open {G : gW} {B lc lp : Nat} {A : Nat → gLd} {π : gPS} {acc : gLd} {H : Heap} (h6 : lc ≤ 6) (h : gLfs G B lc A H) (hk : gLk B lc A π lp acc) : (∃ f, gC4 G lp f H ∧ gClo f acc) ∧ (lp = B + 23 ∨ lp = B + 58 ∨ lp = B + 93 ∨ (B + 120 ≤ lp ∧ lp + 6 ≤ B + 156)) := by
  rcases hk with ⟨-, rfl, e⟩ | ⟨i, hi, -, rfl, rfl⟩
  · exact ⟨h.2.2 lp e, by omega⟩
  · exact ⟨h.1 i hi, by omega⟩
theorem gC4_free {G : gW} {lp : Nat} {f : gPS} {H H1 : Heap} {A : Nat → Prop} (h : gC4 G lp f H) (hq : ∀ q : Nat, q < H.size → ¬ A q → H1[q]? = H[q]?) (hA : ∀ k, k < 6 → ¬ A (lp + k)) : gC4 G lp f H1 := by
  obtain ⟨s4, h⟩ := h
  exact ⟨s4, gSg_free h hq (fun k hk => hA k hk)⟩
/-- the regions that the object's calls write, but of the lofts only that which is held -/
abbrev gAr (B lp : Nat) (q : Nat) : Prop := (lp ≤ q ∧ q < lp + 6) ∨ (B ≤ q ∧ q < B + 23) ∨ (B + 36 ≤ q ∧ q < B + 58) ∨ (B + 71 ≤ q ∧ q < B + 93) ∨ (B + 106 ≤ q ∧ q < B + 120)
theorem gLfs_step {G : gW} {B lc lp : Nat} {A : Nat → gLd} {π f : gPS} {acc : gLd} {H H1 : Heap} (h6 : lc ≤ 6) (h : gLfs G B lc A H) (hk : gLk B lc A π lp acc) (h1 : gC4 G lp f H1) (hcl : gClo f acc) (hq : ∀ q : Nat, q < H.size → ¬ gAr B lp q → H1[q]? = H[q]?) : gLfs G B lc A H1 := by
  refine ⟨fun i hi => ?_, fun i h9 hi => ?_, fun a ha => ?_⟩
  · by_cases e : lp = B + 107 + 13 + 6 * i
    · rcases hk with ⟨-, -, e2⟩ | ⟨j, hj, -, e2, e3⟩
      · omega
      · have ej : j = i := by omega
        subst ej
        subst e2
        subst e3
        exact ⟨f, h1, hcl⟩
    · obtain ⟨f2, a, b⟩ := h.1 i hi
      refine ⟨f2, gC4_free a hq (fun k hk9 q => ?_), b⟩
      rcases hk with ⟨-, -, e2⟩ | ⟨j, hj, -, e2, e3⟩ <;> omega
  · obtain ⟨f2, a, b⟩ := h.2.1 i h9 hi
    refine ⟨f2, gSg_free a hq (fun k hk9 q => ?_), b⟩
    simp only [List.length_cons, List.length_nil] at hk9
    rcases hk with ⟨-, -, e2⟩ | ⟨j, hj, -, e2, e3⟩ <;> omega
  · by_cases e : lp = a
    · subst e
      rcases hk with ⟨-, e3, e2⟩ | ⟨j, hj, -, e2, e3⟩
      · subst e3
        exact ⟨f, h1, hcl⟩
      · omega
    · obtain ⟨f2, a2, b⟩ := h.2.2 a ha
      refine ⟨f2, gC4_free a2 hq (fun k hk9 q => ?_), b⟩
      rcases hk with ⟨-, -, e2⟩ | ⟨j, hj, -, e2, e3⟩ <;> omega
theorem gLfs_free {G : gW} {B lc : Nat} {A : Nat → gLd} {H H1 : Heap} {S : Nat → Prop} (h : gLfs G B lc A H) (hq : ∀ q : Nat, q < H.size → ¬ S q → H1[q]? = H[q]?) (hS : ∀ q, B + 23 ≤ q → q < B + 156 → (B + 29 ≤ q → B + 58 ≤ q) → (B + 64 ≤ q → B + 93 ≤ q) → (B + 99 ≤ q → B + 120 ≤ q) → ¬ S q) (h6 : lc ≤ 6) : gLfs G B lc A H1 := by
  refine ⟨fun i hi => ?_, fun i h9 hi => ?_, fun a ha => ?_⟩
  · obtain ⟨f, a, b⟩ := h.1 i hi
    exact ⟨f, gC4_free a hq (fun k hk => hS _ (by omega) (by omega) (by omega) (by omega) (by omega)), b⟩
  · obtain ⟨f, a, b⟩ := h.2.1 i h9 hi
    exact ⟨f, gSg_free a hq (fun k hk => by
      simp only [List.length_cons, List.length_nil] at hk
      exact hS _ (by omega) (by omega) (by omega) (by omega) (by omega)), b⟩
  · obtain ⟨f, a2, b⟩ := h.2.2 a ha
    exact ⟨f, gC4_free a2 hq (fun k hk => by
      rcases ha with e | e | e <;> subst e <;> exact hS _ (by omega) (by omega) (by omega) (by omega) (by omega)), b⟩
/-- the reference's loft in force -/
theorem gHold_of {B lc lp : Nat} {A : Nat → gLd} {π f : gPS} {acc : gLd} (h6 : lc ≤ 6) (hk : gLk B lc A π lp acc) (hr : gRL f lc A) : gHold π f (gLof acc) := by
  obtain ⟨o, c, ho, hc, -, -, hA⟩ := hr
  rcases hk with ⟨e, rfl, -⟩ | ⟨h, hh, e, -, rfl⟩
  · exact Or.inl ⟨e, rfl⟩
  · obtain ⟨h10, h1, ha⟩ := hA h hh
    refine Or.inr ⟨h, by omega, e, h10, h1, fun i hi => ?_⟩
    obtain ⟨a1, a2, a3, a4, bg, b1, b2, b3, b4, b5⟩ := ha i hi
    exact ⟨a1, a2, a3, bg, b1, b2, by
      show bg + ((A h).getD i (0, 0, [])).2.2.length ≤ 800
      omega, b4, b5⟩
theorem gLk_same {B lc lp : Nat} {A : Nat → gLd} {π ρ : gPS} {acc : gLd} (h : gLk B lc A π lp acc) (e : ρ 15 6 = π 15 6) : gLk B lc A ρ lp acc := by
  unfold gLk at h ⊢
  rw [e]
  exact h
