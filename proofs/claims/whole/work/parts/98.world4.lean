/-! THE WORLD: which loft is held, is not changed by most calls; small things of the law -/
theorem gH_letter {π : gPS} {p w : Int32} : (gqLetter π p w).2 15 6 = π 15 6 := by
  unfold gqLetter
  split
  · split
    · show (gU π 4 p.toNatClampNeg w) 15 6 = _
      rw [gU_ne (by decide)]
    · rfl
  · rfl
theorem gH_tire {π : gPS} {p w : Int32} : (gqTire π p w).2 15 6 = π 15 6 := by
  unfold gqTire
  split
  · split
    · show (gU π 5 p.toNatClampNeg w) 15 6 = _
      rw [gU_ne (by decide)]
    · rfl
  · rfl
theorem gH_phrase {π : gPS} {w wh x : Int32} : (gqPhrase π w wh x).2 15 6 = π 15 6 := by
  unfold gqPhrase
  split
  · split
    · split
      · split
        · show (gU π 0 w.toNatClampNeg x) 15 6 = _
          rw [gU_ne (by decide)]
        · rfl
      · split
        · show (gU π 1 w.toNatClampNeg x) 15 6 = _
          rw [gU_ne (by decide)]
        · rfl
    · rfl
  · rfl
theorem gH_row {π : gPS} {p q x : Int32} : (gqRow π p q x).2 15 6 = π 15 6 := by
  unfold gqRow
  split
  · split
    · split
      · split
        · show (gU π 7 (4 * p.toNatClampNeg + q.toNatClampNeg) x) 15 6 = _
          rw [gU_ne (by decide)]
        · rfl
      · rfl
    · rfl
  · rfl
theorem gH_book {π : gPS} {w c : Int32} : (gqBook π w c).2 15 6 = π 15 6 := by
  unfold gqBook
  split
  · show (gU π 15 5 0) 15 6 = _
    rw [gU_o (by decide)]
  · split
    · split
      · split
        · rfl
        · show (gU (gU (gU π 13 (π 15 5).toNatClampNeg w) 15 5 (π 15 5 + 1)) 14 (π 15 5).toNatClampNeg c) 15 6 = _
          rw [gU_ne (by decide), gU_o (by decide), gU_ne (by decide)]
      · rfl
    · rfl
theorem gH_see {π : gPS} {p w so : Int32} : (gqSee π p w so).2 15 6 = π 15 6 := by
  unfold gqSee
  split
  · show (gU π 15 3 0) 15 6 = _
    rw [gU_o (by decide)]
  · split
    · split
      · split
        · rfl
        · show (gU (gU (gU (gU π 8 (π 15 3).toNatClampNeg p) 9 (π 15 3).toNatClampNeg w) 15 3 (π 15 3 + 1)) 10 (π 15 3).toNatClampNeg (if so = 0 then 0 else 1)) 15 6 = _
          rw [gU_ne (by decide), gU_o (by decide), gU_ne (by decide), gU_ne (by decide)]
      · rfl
    · rfl
theorem gH_planF {π : gPS} {wh x : Int32} : (gqPlanF π wh x).2 15 6 = π 15 6 := by
  unfold gqPlanF
  split
  · rfl
  · show (gU (gU (gU π 11 (π 15 4).toNatClampNeg wh) 15 4 (π 15 4 + 1)) 12 (π 15 4).toNatClampNeg (if wh = 0 then 0 else x)) 15 6 = _
    rw [gU_ne (by decide), gU_o (by decide), gU_ne (by decide)]
theorem gH_plan {π : gPS} {wh x : Int32} : (gqPlan π wh x).2 15 6 = π 15 6 := by
  unfold gqPlan
  split
  · show (gU π 15 4 0) 15 6 = _
    rw [gU_o (by decide)]
  · split
    · split
      · split
        · exact gH_planF
        · rfl
      · split
        · split
          · exact gH_planF
          · rfl
        · exact gH_planF
    · rfl
theorem gH_pigeon {π : gPS} {kd v : Int32} : (gqPigeon π kd v).2 15 6 = π 15 6 := by
  unfold gqPigeon
  split
  · split
    · split
      · rfl
      · show (gU (gZr (gU (gU (gU (gU (gU π 2 (π 15 0).toNatClampNeg kd) 3 (π 15 0).toNatClampNeg v) 4 (π 15 0).toNatClampNeg 0) 5 (π 15 0).toNatClampNeg 0) 6 (π 15 0).toNatClampNeg 0) (π 15 0).toNatClampNeg 4) 15 0 (π 15 0 + 1)) 15 6 = _
        rw [gU_o (by decide), gZr_15, gU_ne (by decide), gU_ne (by decide), gU_ne (by decide), gU_ne (by decide), gU_ne (by decide)]
    · rfl
  · rfl
theorem gH_pass {π : gPS} {L : gLf} {n : Nat} {m : Int32} : (gqPass π L n m).2 15 6 = π 15 6 := by
  unfold gqPass
  split
  · split
    · exact gPa_15 (by decide) (by decide) _
    · rfl
  · rfl
theorem gCmp9 {v w : Int64} (h : v = w) : lg_cmp v w = 0 := by
  subst h
  unfold lg_cmp
  simp
theorem gAr_up {N B lp q : Nat} (hB : N ≤ B) (hlp : lp = B + 23 ∨ lp = B + 58 ∨ lp = B + 93 ∨ (B + 120 ≤ lp ∧ lp + 6 ≤ B + 156)) (h : gAr B lp q) : N ≤ q := by omega
theorem gBk {bn : Nat} {π : gPS} (h : ∀ k, k < bn → ∃ q, q < 12 ∧ π 13 k = nI q) : ∀ k, k < bn → 0 ≤ π 13 k ∧ π 13 k ≤ 11 := fun k hk => by
  obtain ⟨q, hq, e⟩ := h k hk
  rw [e]
  exact ⟨nI_le (a := 0) (by omega) (by omega), nI_le (b := 11) (by omega) (by omega)⟩
theorem gOld_law {G : gW} {s : State} {H : Heap} {locs : List Loc} (hG : G.2.2.2 = s.heap) (hS : va_S (fun q => s.heap.size ≤ q) s.heap H locs) : gOld G H := by
  intro a ha
  rw [hG] at ha ⊢
  exact hS.2.1 a ha (Nat.not_le.mpr ha)
theorem gAl_up {N B lc q : Nat} (hB : N ≤ B) (h : gAl B lc q) : N ≤ q := by omega
theorem gAl_no {B lc q : Nat} (h6 : lc < 6) (a : B + 156 ≤ q) : ¬ gAl B lc q := by omega
