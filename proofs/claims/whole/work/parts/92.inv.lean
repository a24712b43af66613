/-! WHAT HOLDS OF ALL STATES is kept by every call -/
theorem gInv_same {π ρ : gPS} (h : gInv π) (hr : ∀ a, a ≠ 0 → a ≠ 1 → a ≠ 3 → a ≠ 9 → a ≠ 14 → a ≠ 15 → ρ a = π a) (h0 : ρ 15 0 = π 15 0) (h3 : ρ 15 3 = π 15 3) (h4 : ρ 15 4 = π 15 4) (h5 : ρ 15 5 = π 15 5) : gInv ρ := by
  have r2 := hr 2 (by decide) (by decide) (by decide) (by decide) (by decide) (by decide)
  have r4 := hr 4 (by decide) (by decide) (by decide) (by decide) (by decide) (by decide)
  have r5 := hr 5 (by decide) (by decide) (by decide) (by decide) (by decide) (by decide)
  have r6 := hr 6 (by decide) (by decide) (by decide) (by decide) (by decide) (by decide)
  have r7 := hr 7 (by decide) (by decide) (by decide) (by decide) (by decide) (by decide)
  have r8 := hr 8 (by decide) (by decide) (by decide) (by decide) (by decide) (by decide)
  have r10 := hr 10 (by decide) (by decide) (by decide) (by decide) (by decide) (by decide)
  have r11 := hr 11 (by decide) (by decide) (by decide) (by decide) (by decide) (by decide)
  have r12 := hr 12 (by decide) (by decide) (by decide) (by decide) (by decide) (by decide)
  have r13 := hr 13 (by decide) (by decide) (by decide) (by decide) (by decide) (by decide)
  unfold gInv gPlOk at h ⊢
  rw [r2, r4, r5, r6, r7, r8, r10, r11, r12, r13, h0, h3, h4, h5]
  exact h
theorem gInv_phrase {π : gPS} {w wh x : Int32} (h : gInv π) : gInv (gqPhrase π w wh x).2 := by
  unfold gqPhrase
  split
  · split
    · split
      · split
        · show gInv (gU π 0 w.toNatClampNeg x)
          exact gInv_same h (fun a h0 _ _ _ _ _ => gU_ne h0) (congrFun (gU_ne (show (15 : Nat) ≠ 0 by decide)) 0) (congrFun (gU_ne (show (15 : Nat) ≠ 0 by decide)) 3) (congrFun (gU_ne (show (15 : Nat) ≠ 0 by decide)) 4) (congrFun (gU_ne (show (15 : Nat) ≠ 0 by decide)) 5)
        · exact h
      · split
        · show gInv (gU π 1 w.toNatClampNeg x)
          exact gInv_same h (fun a _ h1 _ _ _ _ => gU_ne h1) (congrFun (gU_ne (show (15 : Nat) ≠ 1 by decide)) 0) (congrFun (gU_ne (show (15 : Nat) ≠ 1 by decide)) 3) (congrFun (gU_ne (show (15 : Nat) ≠ 1 by decide)) 4) (congrFun (gU_ne (show (15 : Nat) ≠ 1 by decide)) 5)
        · exact h
    · exact h
  · exact h
theorem gInv_hold {π : gPS} {x : Int32} (h : gInv π) : gInv (gU π 15 6 x) := gInv_same h (fun a _ _ _ _ _ h15 => gU_ne h15) (gU_o (by decide)) (gU_o (by decide)) (gU_o (by decide)) (gU_o (by decide))
theorem gInv_letter {π : gPS} {p w : Int32} (h : gInv π) : gInv (gqLetter π p w).2 := by
  unfold gqLetter
  split
  · rename_i hp
    split
    · obtain ⟨⟨n, hn, hz, h1⟩, h2, h3, h4, h5, h6⟩ := h
      obtain ⟨k, hk, e⟩ := gIx hz (by omega) hp
      subst e
      have ek : (nI k).toNatClampNeg = k := nI_clamp (by omega)
      show gInv (gU π 4 (nI k).toNatClampNeg w)
      rw [ek]
      unfold gInv gPlOk
      refine ⟨⟨n, hn, by rw [gU_ne (by decide)]; exact hz, fun j h9 h8 => ?_⟩, ?_⟩
      · rw [gU_o (show j ≠ k by omega), gU_ne (show 5 ≠ 4 by decide), gU_ne (show 6 ≠ 4 by decide), gU_ne (show 7 ≠ 4 by decide)]
        exact h1 j h9 h8
      · simp only [gU_ne (show 2 ≠ 4 by decide), gU_ne (show 15 ≠ 4 by decide), gU_ne (show 8 ≠ 4 by decide), gU_ne (show 10 ≠ 4 by decide), gU_ne (show 11 ≠ 4 by decide), gU_ne (show 12 ≠ 4 by decide), gU_ne (show 13 ≠ 4 by decide), gU_ne (show 6 ≠ 4 by decide)]
        exact ⟨h2, h3, h4, h5, h6⟩
    · exact h
  · exact h
theorem gInv_tire {π : gPS} {p w : Int32} (h : gInv π) : gInv (gqTire π p w).2 := by
  unfold gqTire
  split
  · rename_i hp
    split
    · obtain ⟨⟨n, hn, hz, h1⟩, h2, h3, h4, h5, h6⟩ := h
      obtain ⟨k, hk, e⟩ := gIx hz (by omega) hp
      subst e
      have ek : (nI k).toNatClampNeg = k := nI_clamp (by omega)
      show gInv (gU π 5 (nI k).toNatClampNeg w)
      rw [ek]
      unfold gInv gPlOk
      refine ⟨⟨n, hn, by rw [gU_ne (by decide)]; exact hz, fun j h9 h8 => ?_⟩, ?_⟩
      · rw [gU_o (show j ≠ k by omega), gU_ne (show 4 ≠ 5 by decide), gU_ne (show 6 ≠ 5 by decide), gU_ne (show 7 ≠ 5 by decide)]
        exact h1 j h9 h8
      · simp only [gU_ne (show 2 ≠ 5 by decide), gU_ne (show 15 ≠ 5 by decide), gU_ne (show 8 ≠ 5 by decide), gU_ne (show 10 ≠ 5 by decide), gU_ne (show 11 ≠ 5 by decide), gU_ne (show 12 ≠ 5 by decide), gU_ne (show 13 ≠ 5 by decide), gU_ne (show 6 ≠ 5 by decide)]
        exact ⟨h2, h3, h4, h5, h6⟩
    · exact h
  · exact h
theorem gInv_row {π : gPS} {p q x : Int32} (h : gInv π) : gInv (gqRow π p q x).2 := by
  unfold gqRow
  split
  · rename_i hp
    split
    · rename_i hq
      split
      · split
        · obtain ⟨⟨n, hn, hz, h1⟩, h2, h3, h4, h5, h6⟩ := h
          obtain ⟨k, hk, e⟩ := gIx hz (by omega) hp
          subst e
          have ek : (nI k).toNatClampNeg = k := nI_clamp (by omega)
          obtain ⟨i, hi, e⟩ := gIx (z := 4) (n := 4) rfl (by omega) ⟨hq.1, Int32.lt_of_le_of_lt hq.2 (by decide)⟩
          subst e
          have ei : (nI i).toNatClampNeg = i := nI_clamp (by omega)
          show gInv (gU π 7 (4 * (nI k).toNatClampNeg + (nI i).toNatClampNeg) x)
          rw [ek, ei]
          unfold gInv gPlOk
          refine ⟨⟨n, hn, by rw [gU_ne (by decide)]; exact hz, fun j h9 h8 => ?_⟩, ?_⟩
          · rw [gU_ne (show 4 ≠ 7 by decide), gU_ne (show 5 ≠ 7 by decide), gU_ne (show 6 ≠ 7 by decide)]
            obtain ⟨a1, a2, a3, a4⟩ := h1 j h9 h8
            exact ⟨a1, a2, a3, fun m hm => by rw [gU_o (show 4 * j + m ≠ 4 * k + i by omega)]; exact a4 m hm⟩
          · simp only [gU_ne (show 2 ≠ 7 by decide), gU_ne (show 15 ≠ 7 by decide), gU_ne (show 8 ≠ 7 by decide), gU_ne (show 10 ≠ 7 by decide), gU_ne (show 11 ≠ 7 by decide), gU_ne (show 12 ≠ 7 by decide), gU_ne (show 13 ≠ 7 by decide), gU_ne (show 6 ≠ 7 by decide)]
            exact ⟨h2, h3, h4, h5, h6⟩
        · exact h
      · exact h
    · exact h
  · exact h

theorem gInv_book {π : gPS} {w c : Int32} (h : gInv π) : gInv (gqBook π w c).2 := by
  obtain ⟨h1, h2, h3, h4, ⟨bn, hbn, hb, h5⟩, h6⟩ := h
  unfold gqBook
  split
  · show gInv (gU π 15 5 0)
    unfold gInv gPlOk
    simp only [gU_ne (show 2 ≠ 15 by decide), gU_ne (show 4 ≠ 15 by decide), gU_ne (show 5 ≠ 15 by decide), gU_ne (show 6 ≠ 15 by decide), gU_ne (show 7 ≠ 15 by decide), gU_ne (show 8 ≠ 15 by decide), gU_ne (show 10 ≠ 15 by decide), gU_ne (show 11 ≠ 15 by decide), gU_ne (show 12 ≠ 15 by decide), gU_ne (show 13 ≠ 15 by decide), gU_o (show 0 ≠ 5 by decide), gU_o (show 3 ≠ 5 by decide), gU_o (show 4 ≠ 5 by decide), gU_e]
    exact ⟨h1, h2, h3, h4, ⟨0, by omega, rfl, fun k hk => absurd hk (Nat.not_lt_zero _)⟩, h6⟩
  · split
    · rename_i hw
      split
      · split
        · exact ⟨h1, h2, h3, h4, ⟨bn, hbn, hb, h5⟩, h6⟩
        · rename_i h8
          have hlt : bn < 8 := by
            rcases Nat.lt_or_ge bn 8 with q | q
            · exact q
            · exact absurd (by rw [hb, show bn = 8 by omega]; rfl) h8
          obtain ⟨q, hq, e⟩ := gIx (z := 12) (n := 12) rfl (by omega) ⟨hw.1, Int32.lt_of_le_of_lt hw.2 (by decide)⟩
          have eb : (π 15 5).toNatClampNeg = bn := by rw [hb]; exact nI_clamp (by omega)
          show gInv (gU (gU (gU π 13 (π 15 5).toNatClampNeg w) 15 5 (π 15 5 + 1)) 14 (π 15 5).toNatClampNeg c)
          rw [eb, show π 15 5 + 1 = nI (bn + 1) from gAdd hb rfl]
          unfold gInv gPlOk
          simp only [gU_ne (show 2 ≠ 14 by decide), gU_ne (show 4 ≠ 14 by decide), gU_ne (show 5 ≠ 14 by decide), gU_ne (show 6 ≠ 14 by decide), gU_ne (show 7 ≠ 14 by decide), gU_ne (show 8 ≠ 14 by decide), gU_ne (show 10 ≠ 14 by decide), gU_ne (show 11 ≠ 14 by decide), gU_ne (show 12 ≠ 14 by decide), gU_ne (show 13 ≠ 14 by decide), gU_ne (show 15 ≠ 14 by decide), gU_ne (show 2 ≠ 15 by decide), gU_ne (show 4 ≠ 15 by decide), gU_ne (show 5 ≠ 15 by decide), gU_ne (show 6 ≠ 15 by decide), gU_ne (show 7 ≠ 15 by decide), gU_ne (show 8 ≠ 15 by decide), gU_ne (show 10 ≠ 15 by decide), gU_ne (show 11 ≠ 15 by decide), gU_ne (show 12 ≠ 15 by decide), gU_ne (show 13 ≠ 15 by decide), gU_o (show 0 ≠ 5 by decide), gU_o (show 3 ≠ 5 by decide), gU_o (show 4 ≠ 5 by decide), gU_e, gU_ne (show 2 ≠ 13 by decide), gU_ne (show 4 ≠ 13 by decide), gU_ne (show 5 ≠ 13 by decide), gU_ne (show 6 ≠ 13 by decide), gU_ne (show 7 ≠ 13 by decide), gU_ne (show 8 ≠ 13 by decide), gU_ne (show 10 ≠ 13 by decide), gU_ne (show 11 ≠ 13 by decide), gU_ne (show 12 ≠ 13 by decide), gU_ne (show 15 ≠ 13 by decide)]
          refine ⟨h1, h2, h3, h4, ⟨bn + 1, by omega, rfl, fun k hk => ?_⟩, h6⟩
          by_cases z : k = bn
          · subst z
            exact ⟨q, hq, by rw [gU_e]; exact e⟩
          · rw [gU_o z]
            exact h5 k (by omega)
      · exact ⟨h1, h2, h3, h4, ⟨bn, hbn, hb, h5⟩, h6⟩
    · exact ⟨h1, h2, h3, h4, ⟨bn, hbn, hb, h5⟩, h6⟩

theorem gInv_see {π : gPS} {p w so : Int32} (h : gInv π) : gInv (gqSee π p w so).2 := by
  obtain ⟨⟨n, hn, hz, h1⟩, h2, ⟨sn, hsn, hs, h3⟩, h4, h5, h6⟩ := h
  unfold gqSee
  split
  · show gInv (gU π 15 3 0)
    unfold gInv gPlOk
    simp only [gU_ne (show 2 ≠ 15 by decide), gU_ne (show 4 ≠ 15 by decide), gU_ne (show 5 ≠ 15 by decide), gU_ne (show 6 ≠ 15 by decide), gU_ne (show 7 ≠ 15 by decide), gU_ne (show 8 ≠ 15 by decide), gU_ne (show 10 ≠ 15 by decide), gU_ne (show 11 ≠ 15 by decide), gU_ne (show 12 ≠ 15 by decide), gU_ne (show 13 ≠ 15 by decide), gU_o (show 0 ≠ 3 by decide), gU_o (show 4 ≠ 3 by decide), gU_o (show 5 ≠ 3 by decide), gU_e]
    exact ⟨⟨n, hn, hz, h1⟩, h2, ⟨0, by omega, rfl, fun k hk => absurd hk (Nat.not_lt_zero _)⟩, h4, h5, h6⟩
  · split
    · rename_i hp
      split
      · split
        · exact ⟨⟨n, hn, hz, h1⟩, h2, ⟨sn, hsn, hs, h3⟩, h4, h5, h6⟩
        · rename_i h8
          have hlt : sn < 5 := by
            rcases Nat.lt_or_ge sn 5 with q | q
            · exact q
            · exact absurd (by rw [hs, show sn = 5 by omega]; rfl) h8
          obtain ⟨q, hq, e⟩ := gIx hz (by omega) hp
          have es : (π 15 3).toNatClampNeg = sn := by rw [hs]; exact nI_clamp (by omega)
          show gInv (gU (gU (gU (gU π 8 (π 15 3).toNatClampNeg p) 9 (π 15 3).toNatClampNeg w) 15 3 (π 15 3 + 1)) 10 (π 15 3).toNatClampNeg (if so = 0 then 0 else 1))
          rw [es, show π 15 3 + 1 = nI (sn + 1) from gAdd hs rfl]
          unfold gInv gPlOk
          simp only [gU_ne (show 2 ≠ 10 by decide), gU_ne (show 4 ≠ 10 by decide), gU_ne (show 5 ≠ 10 by decide), gU_ne (show 6 ≠ 10 by decide), gU_ne (show 7 ≠ 10 by decide), gU_ne (show 8 ≠ 10 by decide), gU_ne (show 11 ≠ 10 by decide), gU_ne (show 12 ≠ 10 by decide), gU_ne (show 13 ≠ 10 by decide), gU_ne (show 15 ≠ 10 by decide), gU_ne (show 2 ≠ 15 by decide), gU_ne (show 4 ≠ 15 by decide), gU_ne (show 5 ≠ 15 by decide), gU_ne (show 6 ≠ 15 by decide), gU_ne (show 7 ≠ 15 by decide), gU_ne (show 8 ≠ 15 by decide), gU_ne (show 10 ≠ 15 by decide), gU_ne (show 11 ≠ 15 by decide), gU_ne (show 12 ≠ 15 by decide), gU_ne (show 13 ≠ 15 by decide), gU_o (show 0 ≠ 3 by decide), gU_o (show 4 ≠ 3 by decide), gU_o (show 5 ≠ 3 by decide), gU_e, gU_ne (show 2 ≠ 9 by decide), gU_ne (show 4 ≠ 9 by decide), gU_ne (show 5 ≠ 9 by decide), gU_ne (show 6 ≠ 9 by decide), gU_ne (show 7 ≠ 9 by decide), gU_ne (show 8 ≠ 9 by decide), gU_ne (show 10 ≠ 9 by decide), gU_ne (show 11 ≠ 9 by decide), gU_ne (show 12 ≠ 9 by decide), gU_ne (show 13 ≠ 9 by decide), gU_ne (show 15 ≠ 9 by decide), gU_ne (show 2 ≠ 8 by decide), gU_ne (show 4 ≠ 8 by decide), gU_ne (show 5 ≠ 8 by decide), gU_ne (show 6 ≠ 8 by decide), gU_ne (show 7 ≠ 8 by decide), gU_ne (show 10 ≠ 8 by decide), gU_ne (show 11 ≠ 8 by decide), gU_ne (show 12 ≠ 8 by decide), gU_ne (show 13 ≠ 8 by decide), gU_ne (show 15 ≠ 8 by decide)]
          refine ⟨⟨n, hn, hz, h1⟩, h2, ⟨sn + 1, by omega, rfl, fun k hk => ?_⟩, h4, h5, h6⟩
          by_cases z : k = sn
          · subst z
            refine ⟨⟨q, by omega, by rw [gU_e]; exact e⟩, ?_⟩
            rw [gU_e]
            split
            · exact Or.inl rfl
            · exact Or.inr rfl
          · rw [gU_o z, gU_o z]
            simp only [gU_ne (show 10 ≠ 15 by decide), gU_ne (show 10 ≠ 9 by decide), gU_ne (show 10 ≠ 8 by decide)]
            exact h3 k (by omega)
      · exact ⟨⟨n, hn, hz, h1⟩, h2, ⟨sn, hsn, hs, h3⟩, h4, h5, h6⟩
    · exact ⟨⟨n, hn, hz, h1⟩, h2, ⟨sn, hsn, hs, h3⟩, h4, h5, h6⟩
theorem gInv_planF {π : gPS} {wh x : Int32} (h : gInv π) (hw : wh = 0 ∨ ((wh = 1 ∨ wh = 2) ∧ ∃ q, q < 6 ∧ x = nI q) ∨ (wh = 3 ∧ ∃ q, q < 12 ∧ x = nI q)) : gInv (gqPlanF π wh x).2 := by
  obtain ⟨h1, h2, h3, ⟨pn, hpn, hp, h4⟩, h5, h6⟩ := h
  unfold gqPlanF
  split
  · exact ⟨h1, h2, h3, ⟨pn, hpn, hp, h4⟩, h5, h6⟩
  · rename_i h8
    have hlt : pn < 10 := by
      rcases Nat.lt_or_ge pn 10 with q | q
      · exact q
      · exact absurd (by rw [hp, show pn = 10 by omega]; rfl) h8
    have es : (π 15 4).toNatClampNeg = pn := by rw [hp]; exact nI_clamp (by omega)
    show gInv (gU (gU (gU π 11 (π 15 4).toNatClampNeg wh) 15 4 (π 15 4 + 1)) 12 (π 15 4).toNatClampNeg (if wh = 0 then 0 else x))
    rw [es, show π 15 4 + 1 = nI (pn + 1) from gAdd hp rfl]
    unfold gInv
    simp only [gU_ne (show 2 ≠ 12 by decide), gU_ne (show 4 ≠ 12 by decide), gU_ne (show 5 ≠ 12 by decide), gU_ne (show 6 ≠ 12 by decide), gU_ne (show 7 ≠ 12 by decide), gU_ne (show 8 ≠ 12 by decide), gU_ne (show 10 ≠ 12 by decide), gU_ne (show 11 ≠ 12 by decide), gU_ne (show 13 ≠ 12 by decide), gU_ne (show 15 ≠ 12 by decide), gU_ne (show 2 ≠ 15 by decide), gU_ne (show 4 ≠ 15 by decide), gU_ne (show 5 ≠ 15 by decide), gU_ne (show 6 ≠ 15 by decide), gU_ne (show 7 ≠ 15 by decide), gU_ne (show 8 ≠ 15 by decide), gU_ne (show 10 ≠ 15 by decide), gU_ne (show 11 ≠ 15 by decide), gU_ne (show 12 ≠ 15 by decide), gU_ne (show 13 ≠ 15 by decide), gU_o (show 0 ≠ 4 by decide), gU_o (show 3 ≠ 4 by decide), gU_o (show 5 ≠ 4 by decide), gU_e, gU_ne (show 2 ≠ 11 by decide), gU_ne (show 4 ≠ 11 by decide), gU_ne (show 5 ≠ 11 by decide), gU_ne (show 6 ≠ 11 by decide), gU_ne (show 7 ≠ 11 by decide), gU_ne (show 8 ≠ 11 by decide), gU_ne (show 10 ≠ 11 by decide), gU_ne (show 12 ≠ 11 by decide), gU_ne (show 13 ≠ 11 by decide), gU_ne (show 15 ≠ 11 by decide)]
    refine ⟨h1, h2, h3, ⟨pn + 1, by omega, rfl, fun k hk => ?_⟩, h5, h6⟩
    by_cases z : k = pn
    · subst z
      simp only [gU_ne (show 11 ≠ 12 by decide), gU_ne (show 11 ≠ 15 by decide), gU_e]
      rcases hw with e | ⟨e, q, hq, e2⟩ | ⟨e, q, hq, e2⟩
      · exact Or.inl e
      · exact Or.inr (Or.inl ⟨e, q, hq, by rw [if_neg (by rcases e with e | e <;> rw [e] <;> decide)]; exact e2⟩)
      · exact Or.inr (Or.inr ⟨e, q, hq, by rw [if_neg (by rw [e]; decide)]; exact e2⟩)
    · simp only [gU_ne (show 11 ≠ 12 by decide), gU_ne (show 11 ≠ 15 by decide), gU_o z, gU_ne (show 12 ≠ 15 by decide), gU_ne (show 12 ≠ 11 by decide)]
      exact h4 k (by omega)
theorem gInv_plan {π : gPS} {wh x : Int32} (h : gInv π) : gInv (gqPlan π wh x).2 := by
  obtain ⟨⟨n, hn, hz, h1⟩, h2, h3, h4, h5, h6⟩ := id h
  unfold gqPlan
  split
  · show gInv (gU π 15 4 0)
    unfold gInv
    simp only [gU_ne (show 2 ≠ 15 by decide), gU_ne (show 4 ≠ 15 by decide), gU_ne (show 5 ≠ 15 by decide), gU_ne (show 6 ≠ 15 by decide), gU_ne (show 7 ≠ 15 by decide), gU_ne (show 8 ≠ 15 by decide), gU_ne (show 10 ≠ 15 by decide), gU_ne (show 11 ≠ 15 by decide), gU_ne (show 12 ≠ 15 by decide), gU_ne (show 13 ≠ 15 by decide), gU_o (show 0 ≠ 4 by decide), gU_o (show 3 ≠ 4 by decide), gU_o (show 5 ≠ 4 by decide), gU_e]
    exact ⟨⟨n, hn, hz, h1⟩, h2, h3, ⟨0, by omega, rfl, fun k hk => absurd hk (Nat.not_lt_zero _)⟩, h5, h6⟩
  · split
    · rename_i hw
      split
      · rename_i h12
        split
        · rename_i hx
          obtain ⟨q, hq, e⟩ := gIx hz (by omega) hx
          obtain ⟨k, hk, ek⟩ := gIx (z := 3) (n := 3) rfl (by omega) ⟨hw.1, Int32.lt_of_le_of_lt h12.2 (by decide)⟩
          refine gInv_planF h (Or.inr (Or.inl ⟨?_, q, by omega, e⟩))
          match k, hk, ek with
          | 0, _, ek => rw [ek] at h12; exact absurd h12.1 (by decide)
          | 1, _, ek => exact Or.inl ek
          | 2, _, ek => exact Or.inr ek
        · exact h
      · rename_i h12
        split
        · rename_i h3w
          split
          · rename_i hx
            obtain ⟨q, hq, e⟩ := gIx (z := 12) (n := 12) rfl (by omega) ⟨hx.1, Int32.lt_of_le_of_lt hx.2 (by decide)⟩
            exact gInv_planF h (Or.inr (Or.inr ⟨h3w, q, hq, e⟩))
          · exact h
        · rename_i h3w
          obtain ⟨k, hk, ek⟩ := gIx (z := 4) (n := 4) rfl (by omega) ⟨hw.1, Int32.lt_of_le_of_lt hw.2 (by decide)⟩
          refine gInv_planF h (Or.inl ?_)
          match k, hk, ek with
          | 0, _, ek => exact ek
          | 1, _, ek => exact absurd (by rw [ek]; decide) h12
          | 2, _, ek => exact absurd (by rw [ek]; decide) h12
          | 3, _, ek => exact absurd ek h3w
    · exact h
