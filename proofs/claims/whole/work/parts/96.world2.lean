/-! THE WORLD: a loft taken, or not -/
def gAn (A : Nat → gLd) (lc : Nat) (acc : gLd) : Nat → gLd := fun i => if i = lc then acc else A i
theorem gAcc_kept {acc : gLd} {i lc c cc : Nat} {f f9 : gPS} {E E9 : Nat → Int32} (hi : i < lc) (h10 : acc.length ≤ 10) (hq : gFq lc f f9) (hE : ∀ j, j < c → E9 j = E j) (hc : c ≤ cc) (h : gAcc acc (10 * i) c f E) : gAcc acc (10 * i) cc f9 E9 := by
  intro k hk
  obtain ⟨a1, a2, a3, a4, bg, b1, b2, b3, b4, b5⟩ := h k hk
  have e : ∀ a, 2 ≤ a → f9 a (10 * i + k) = f a (10 * i + k) := fun a ha => hq a _ (fun z => by omega) (fun z => by omega)
  refine ⟨a1, by rw [e 2 (by omega)]; exact a2, by rw [e 3 (by omega)]; exact a3, a4, bg, by rw [e 4 (by omega)]; exact b1, by rw [e 5 (by omega)]; exact b2, by omega, fun q hq9 => ?_, b5⟩
  rw [hE _ (by omega)]
  exact b4 q hq9
theorem gRL_fail {f f9 : gPS} {E9 : Nat → Int32} {lc o9 c : Nat} {A : Nat → gLd} {a v d : Int32} (hA : ∀ i, i < lc → (A i).length ≤ 10 ∧ f 1 i = nI (A i).length ∧ gAcc (A i) (10 * i) c f (f 6)) (hq : gFq lc f f9) (hE : ∀ j, j < c → E9 j = f 6 j) (ho : o9 ≤ 4) (hc : c ≤ 100 * lc) : gRL (gR (gR f9 6 E9) 13 (gS5 a v d (nI o9) (nI c))) lc A := by
  refine ⟨o9, c, ho, hc, rfl, rfl, fun i hi => ?_⟩
  obtain ⟨h1, h2, h3⟩ := hA i hi
  refine ⟨h1, (hq 1 i (fun z => by omega) (fun z => by omega)).trans h2, ?_⟩
  show gAcc (A i) (10 * i) c f9 E9
  exact gAcc_kept hi h1 hq hE (Nat.le_refl _) h3
theorem gRL_new {f f9 : gPS} {E9 : Nat → Int32} {lc o9 c cc n : Nat} {A : Nat → gLd} {acc : gLd} {a v d : Int32} (hA : ∀ i, i < lc → (A i).length ≤ 10 ∧ f 1 i = nI (A i).length ∧ gAcc (A i) (10 * i) c f (f 6)) (hq : gFq lc f f9) (hE : ∀ j, j < c → E9 j = f 6 j) (ho : o9 ≤ 4) (hc : c ≤ 100 * lc) (hn : n ≤ 100) (h1c : c ≤ cc) (h2c : cc ≤ c + n) (hl : acc.length ≤ 10) (h1 : f9 1 lc = nI acc.length) (hac : gAcc acc (10 * lc) cc f9 E9) : gRL (gR (gR f9 6 E9) 13 (gS5 a v d (nI o9) (nI cc))) (lc + 1) (gAn A lc acc) := by
  refine ⟨o9, cc, ho, by omega, rfl, rfl, fun i hi => ?_⟩
  by_cases e : i = lc
  · subst e
    rw [show gAn A i acc i = acc from if_pos rfl]
    exact ⟨hl, h1, hac⟩
  · rw [show gAn A lc acc i = A i from if_neg e]
    obtain ⟨q1, q2, q3⟩ := hA i (by omega)
    exact ⟨q1, (hq 1 i (fun z => by omega) (fun z => by omega)).trans q2, (show gAcc (A i) (10 * i) cc f9 E9 from gAcc_kept (by omega) q1 hq hE h1c q3)⟩
theorem gLk_new {B lc lp : Nat} {A : Nat → gLd} {π : gPS} {acc acc2 : gLd} (h : gLk B lc A π lp acc) : gLk B (lc + 1) (gAn A lc acc2) π lp acc := by
  rcases h with a | ⟨i, hi, e1, e2, e3⟩
  · exact Or.inl a
  · exact Or.inr ⟨i, by omega, e1, e2, by rw [show gAn A lc acc2 i = A i from if_neg (by omega)]; exact e3⟩
theorem gLk_now {B lc : Nat} {A : Nat → gLd} {π : gPS} {x : Int32} {acc : gLd} (hx : x = nI lc) : gLk B (lc + 1) (gAn A lc acc) (gU π 15 6 x) (B + 107 + 13 + 6 * lc) acc := Or.inr ⟨lc, by omega, by rw [gU_e]; exact hx, rfl, (if_pos rfl : gAn A lc acc lc = acc).symm⟩
/-- the regions of loft() -/
abbrev gAl (B lc : Nat) (q : Nat) : Prop := (B ≤ q ∧ q < B + 23) ∨ ((B + 107 + 13 + 6 * lc) ≤ q ∧ q < (B + 107 + 13 + 6 * lc) + 6)
theorem gLfs_fail {G : gW} {B lc : Nat} {A : Nat → gLd} {f9 : gPS} {H H1 : Heap} (h6 : lc < 6) (h : gLfs G B lc A H) (h1 : gSg G (B + 107 + 13 + 6 * lc) (gLL G (B + 107 + 13 + 6 * lc) f9) H1) (h30 : f9 3 0 = 0) (hq : ∀ q : Nat, q < H.size → ¬ gAl B lc q → H1[q]? = H[q]?) : gLfs G B lc A H1 := by
  refine ⟨fun i hi => ?_, fun i h9 hi => ?_, fun a ha => ?_⟩
  · obtain ⟨f2, a, b⟩ := h.1 i hi
    exact ⟨f2, gC4_free a hq (fun k hk9 q => by omega), b⟩
  · by_cases e : i = lc
    · subst e
      exact ⟨f9, h1, h30⟩
    · obtain ⟨f2, a, b⟩ := h.2.1 i h9 hi
      refine ⟨f2, gSg_free a hq (fun k hk9 q => ?_), b⟩
      simp only [List.length_cons, List.length_nil] at hk9
      omega
  · obtain ⟨f2, a2, b⟩ := h.2.2 a ha
    exact ⟨f2, gC4_free a2 hq (fun k hk9 q => by omega), b⟩
theorem gLfs_new {G : gW} {B lc : Nat} {A : Nat → gLd} {f9 : gPS} {acc : gLd} {H H1 : Heap} (h6 : lc < 6) (h : gLfs G B lc A H) (h1 : gSg G (B + 107 + 13 + 6 * lc) (gLL G (B + 107 + 13 + 6 * lc) f9) H1) (hcl : gClo f9 acc) (hq : ∀ q : Nat, q < H.size → ¬ gAl B lc q → H1[q]? = H[q]?) : gLfs G B (lc + 1) (gAn A lc acc) H1 := by
  refine ⟨fun i hi => ?_, fun i h9 hi => ?_, fun a ha => ?_⟩
  · by_cases e : i = lc
    · subst e
      rw [show gAn A i acc i = acc from if_pos rfl]
      exact ⟨f9, ⟨f9 4, h1⟩, hcl⟩
    · rw [show gAn A lc acc i = A i from if_neg e]
      obtain ⟨f2, a, b⟩ := h.1 i (by omega)
      exact ⟨f2, gC4_free a hq (fun k hk9 q => by omega), b⟩
  · obtain ⟨f2, a, b⟩ := h.2.1 i (by omega) hi
    refine ⟨f2, gSg_free a hq (fun k hk9 q => ?_), b⟩
    simp only [List.length_cons, List.length_nil] at hk9
    omega
  · obtain ⟨f2, a2, b⟩ := h.2.2 a ha
    exact ⟨f2, gC4_free a2 hq (fun k hk9 q => by omega), b⟩
/-- of π the class keeps no number of its loft -/
theorem gCN_hold {G : gW} {B lp lk : Nat} {π πk μ α : gPS} {x : Int32} {g : Nat → Int64} {H : Heap} (h : gCN G B lp π lk πk μ α g H) : gCN G B lp (gU π 15 6 x) lk πk μ α g H := h
theorem gCN_image {G : gW} {B lp lk : Nat} {π πk μ α : gPS} {g : Nat → Int64} {H : Heap} (h : gCN G B lp π lk πk μ α g H) : gCN G B lp π lk πk μ α g H := h
