/-! WHAT HOLDS OF ALL STATES: a new pigeon, days, acts, tapes, text -/
theorem gZr_ne {π : gPS} {n a : Nat} (h : a ≠ 7) : ∀ j : Nat, (gZr π n j) a = π a
  | 0 => rfl
  | j + 1 => by rw [gZr, gU_ne h, gZr_ne h j]
theorem gZr_7 {π : gPS} {n k : Nat} : ∀ j : Nat, k < 4 * n ∨ 4 * n + j ≤ k → (gZr π n j) 7 k = π 7 k
  | 0, _ => rfl
  | j + 1, h => by rw [gZr, gU_o (by omega), gZr_7 j (by omega)]
theorem gInv_pigeon {π : gPS} {kd v : Int32} (h : gInv π) : gInv (gqPigeon π kd v).2 := by
  obtain ⟨⟨n, hn, hz, h1⟩, h2, h3, h4, h5, h6⟩ := id h
  unfold gqPigeon
  split
  · rename_i hk
    split
    · split
      · exact h
      · rename_i h8
        have hlt : n < 6 := by
          rcases Nat.lt_or_ge n 6 with q | q
          · exact q
          · exact absurd (by rw [hz, show n = 6 by omega]; rfl) h8
        obtain ⟨q, hq, e⟩ := gIx (z := 7) (n := 7) rfl (by omega) ⟨hk.1, Int32.lt_of_le_of_lt hk.2 (by decide)⟩
        have es : (π 15 0).toNatClampNeg = n := by rw [hz]; exact nI_clamp (by omega)
        show gInv (gU (gZr (gU (gU (gU (gU (gU π 2 (π 15 0).toNatClampNeg kd) 3 (π 15 0).toNatClampNeg v) 4 (π 15 0).toNatClampNeg 0) 5 (π 15 0).toNatClampNeg 0) 6 (π 15 0).toNatClampNeg 0) (π 15 0).toNatClampNeg 4) 15 0 (π 15 0 + 1))
        rw [es, show π 15 0 + 1 = nI (n + 1) from gAdd hz rfl]
        unfold gInv gPlOk
        simp only [gU_ne (show 2 ≠ 15 by decide), gU_ne (show 4 ≠ 15 by decide), gU_ne (show 5 ≠ 15 by decide), gU_ne (show 6 ≠ 15 by decide), gU_ne (show 7 ≠ 15 by decide), gU_ne (show 8 ≠ 15 by decide), gU_ne (show 10 ≠ 15 by decide), gU_ne (show 11 ≠ 15 by decide), gU_ne (show 12 ≠ 15 by decide), gU_ne (show 13 ≠ 15 by decide), gU_o (show 3 ≠ 0 by decide), gU_o (show 4 ≠ 0 by decide), gU_o (show 5 ≠ 0 by decide), gU_e]
        rw [gZr_ne (show 2 ≠ 7 by decide), gZr_ne (show 4 ≠ 7 by decide), gZr_ne (show 5 ≠ 7 by decide), gZr_ne (show 6 ≠ 7 by decide), gZr_ne (show 8 ≠ 7 by decide), gZr_ne (show 10 ≠ 7 by decide), gZr_ne (show 11 ≠ 7 by decide), gZr_ne (show 12 ≠ 7 by decide), gZr_ne (show 13 ≠ 7 by decide), gZr_ne (show 15 ≠ 7 by decide)]
        simp only [gU_ne (show 2 ≠ 6 by decide), gU_ne (show 4 ≠ 6 by decide), gU_ne (show 5 ≠ 6 by decide), gU_ne (show 7 ≠ 6 by decide), gU_ne (show 8 ≠ 6 by decide), gU_ne (show 10 ≠ 6 by decide), gU_ne (show 11 ≠ 6 by decide), gU_ne (show 12 ≠ 6 by decide), gU_ne (show 13 ≠ 6 by decide), gU_ne (show 15 ≠ 6 by decide), gU_ne (show 2 ≠ 5 by decide), gU_ne (show 4 ≠ 5 by decide), gU_ne (show 7 ≠ 5 by decide), gU_ne (show 8 ≠ 5 by decide), gU_ne (show 10 ≠ 5 by decide), gU_ne (show 11 ≠ 5 by decide), gU_ne (show 12 ≠ 5 by decide), gU_ne (show 13 ≠ 5 by decide), gU_ne (show 15 ≠ 5 by decide), gU_ne (show 2 ≠ 4 by decide), gU_ne (show 7 ≠ 4 by decide), gU_ne (show 8 ≠ 4 by decide), gU_ne (show 10 ≠ 4 by decide), gU_ne (show 11 ≠ 4 by decide), gU_ne (show 12 ≠ 4 by decide), gU_ne (show 13 ≠ 4 by decide), gU_ne (show 15 ≠ 4 by decide), gU_ne (show 2 ≠ 3 by decide), gU_ne (show 8 ≠ 3 by decide), gU_ne (show 10 ≠ 3 by decide), gU_ne (show 11 ≠ 3 by decide), gU_ne (show 12 ≠ 3 by decide), gU_ne (show 13 ≠ 3 by decide), gU_ne (show 15 ≠ 3 by decide), gU_ne (show 8 ≠ 2 by decide), gU_ne (show 10 ≠ 2 by decide), gU_ne (show 11 ≠ 2 by decide), gU_ne (show 12 ≠ 2 by decide), gU_ne (show 13 ≠ 2 by decide), gU_ne (show 15 ≠ 2 by decide)]
        refine ⟨⟨n + 1, by omega, rfl, fun k a b => ?_⟩, fun k hk => ?_, h3, h4, h5, fun k hk => ?_⟩
        · rw [gU_o (show k ≠ n by omega), gU_o (show k ≠ n by omega), gU_o (show k ≠ n by omega)]
          simp only [gU_ne (show 4 ≠ 3 by decide), gU_ne (show 5 ≠ 3 by decide), gU_ne (show 6 ≠ 3 by decide), gU_ne (show 4 ≠ 2 by decide), gU_ne (show 5 ≠ 2 by decide), gU_ne (show 6 ≠ 2 by decide), gU_ne (show 5 ≠ 4 by decide), gU_ne (show 6 ≠ 4 by decide), gU_ne (show 4 ≠ 5 by decide), gU_ne (show 6 ≠ 5 by decide)]
          obtain ⟨b1, b2, b3, b4⟩ := h1 k (by omega) b
          exact ⟨b1, b2, b3, fun j hj => by
            rw [gZr_7 4 (by omega)]
            simp only [gU_ne (show 7 ≠ 6 by decide), gU_ne (show 7 ≠ 5 by decide), gU_ne (show 7 ≠ 4 by decide), gU_ne (show 7 ≠ 3 by decide), gU_ne (show 7 ≠ 2 by decide)]
            exact b4 j hj⟩
        · by_cases z : k = n
          · subst z
            exact ⟨q, hq, by rw [gU_e]; exact e⟩
          · rw [gU_o z]
            exact h2 k hk
        · by_cases z : k = n
          · subst z
            exact ⟨0, by omega, by rw [gU_e]; rfl⟩
          · rw [gU_o z]
            simp only [gU_ne (show 6 ≠ 5 by decide), gU_ne (show 6 ≠ 4 by decide), gU_ne (show 6 ≠ 3 by decide), gU_ne (show 6 ≠ 2 by decide)]
            exact h6 k hk
    · exact h
  · exact h
theorem gDp_o {π : gPS} {L : gLf} {r : Int32} {k j a : Nat} (h15 : a ≠ 15) (hj : j ≠ k) : (gDp π L r k) a j = π a j := by
  unfold gDp
  by_cases h : gFly π L k
  · rw [if_pos h]
    by_cases h6 : a = 6
    · subst h6
      rw [gU_o hj]
      simp only [gU_ne (show 6 ≠ 5 by decide), gU_ne (show 6 ≠ 4 by decide), gU_ne (show 6 ≠ 15 by decide)]
    · rw [gU_ne h6]
      by_cases h5 : a = 5
      · subst h5
        rw [gU_o hj]
        simp only [gU_ne (show 5 ≠ 4 by decide), gU_ne (show 5 ≠ 15 by decide)]
      · rw [gU_ne h5]
        by_cases h4 : a = 4
        · subst h4
          rw [gU_o hj]
          simp only [gU_ne (show 4 ≠ 15 by decide)]
        · rw [gU_ne h4, gU_ne h15]
  · rw [if_neg h]
    by_cases h5 : a = 5
    · subst h5
      rw [gU_o hj]
    · rw [gU_ne h5]
theorem gDy_o {π : gPS} {L : gLf} {r : Int32} {a : Nat} (h15 : a ≠ 15) {j : Nat} : ∀ n : Nat, n ≤ j → (gDy π L r n) a j = π a j
  | 0, _ => rfl
  | n + 1, h => by rw [gDy, gDp_o h15 (by omega), gDy_o h15 n (by omega)]
theorem gDy_6 {π : gPS} {L : gLf} {r : Int32} {j w : Nat} (h : π 6 j = nI w) : ∀ n : Nat, (gDy π L r n) 6 j = nI w ∨ (j < n ∧ (gDy π L r n) 6 j = nI (w + 1))
  | 0 => Or.inl h
  | n + 1 => by
    rw [gDy, gDp_6]
    by_cases e : j = n
    · subst e
      rw [gDy_6o j (Nat.le_refl j)]
      split
      · exact Or.inr ⟨by omega, gAdd h rfl⟩
      · exact Or.inl h
    · rw [if_neg (fun z => e z.1)]
      rcases gDy_6 h n with a | ⟨a, b⟩
      · exact Or.inl a
      · exact Or.inr ⟨by omega, b⟩
theorem gInv_day {π : gPS} {L : gLf} {n : Nat} (hn : n ≤ 6) (hz : π 15 0 = nI n) (h : gInv π) : gInv (gMn (gDay π L n) n) := by
  obtain ⟨⟨n', hn', hz', h1⟩, h2, h3, h4, h5, h6⟩ := id h
  have en : n' = n := by
    have := congrArg Int32.toNatClampNeg (hz'.symm.trans hz)
    rw [nI_clamp (by omega), nI_clamp (by omega)] at this
    exact this
  subst en
  have r0 : ∀ a, a ≠ 15 → a ≠ 4 → a ≠ 5 → a ≠ 6 → (gMn (gDay π L n') n') a = π a := fun a h15 h4 h5 h6 => by rw [gMn_r h6, gDay_r h15 h4 h5 h6]
  have r15 : ∀ j, j ≠ 1 → j ≠ 2 → (gMn (gDay π L n') n') 15 j = π 15 j := fun j h1 h2 => by rw [gMn_r (by decide), gDay_15 h1 h2]
  have ro : ∀ a, a ≠ 15 → ∀ j, n' ≤ j → (gMn (gDay π L n') n') a j = π a j := fun a h15 j hj => by
    by_cases h6 : a = 6
    · subst h6
      rw [gMn_6, if_neg (by omega)]
      unfold gDay
      rw [gU_ne (by decide), gDy_o (by decide) n' hj]
    · rw [gMn_r h6]
      unfold gDay
      rw [gU_ne h15, gDy_o h15 n' hj]
  unfold gInv gPlOk
  rw [r15 0 (by decide) (by decide), r15 3 (by decide) (by decide), r15 4 (by decide) (by decide), r15 5 (by decide) (by decide), r0 2 (by decide) (by decide) (by decide) (by decide), r0 7 (by decide) (by decide) (by decide) (by decide), r0 8 (by decide) (by decide) (by decide) (by decide), r0 10 (by decide) (by decide) (by decide) (by decide), r0 11 (by decide) (by decide) (by decide) (by decide), r0 12 (by decide) (by decide) (by decide) (by decide), r0 13 (by decide) (by decide) (by decide) (by decide)]
  refine ⟨⟨n', hn', hz', fun k a b => ?_⟩, h2, h3, h4, h5, fun k hk => ?_⟩
  · rw [ro 4 (by decide) k a, ro 5 (by decide) k a, ro 6 (by decide) k a]
    exact h1 k a b
  · obtain ⟨w, hw, e⟩ := h6 k hk
    have ed : (gDay π L n') 6 k = (gDy π L (gRs L L.1) n') 6 k := by
      unfold gDay
      rw [gU_ne (by decide)]
    rw [gMn_6, ed]
    rcases gDy_6 (L := L) (r := gRs L L.1) e n' with a | ⟨a, b⟩
    · by_cases z : k < n'
      · rw [if_pos z, a, gMin_n (by omega)]
        exact ⟨_, Nat.min_le_right _ _, rfl⟩
      · rw [if_neg z, a]
        exact ⟨w, hw, rfl⟩
    · rw [if_pos a, b, gMin_n (by omega)]
      exact ⟨_, Nat.min_le_right _ _, rfl⟩
theorem gInv_pa {π : gPS} {L : gLf} {n : Nat} (hn : n ≤ 6) (hz : π 15 0 = nI n) (h : gInv π) : ∀ k : Nat, gInv (gPa π L n k)
  | 0 => h
  | k + 1 => gInv_day hn (by rw [gPa_15 (by decide) (by decide)]; exact hz) (gInv_pa hn hz h k)
theorem gInv_pass {π : gPS} {L : gLf} {n : Nat} {m : Int32} (hn : n ≤ 6) (hz : π 15 0 = nI n) (h : gInv π) : gInv (gqPass π L n m).2 := by
  unfold gqPass
  split
  · split
    · exact gInv_pa hn hz h _
    · exact h
  · exact h
