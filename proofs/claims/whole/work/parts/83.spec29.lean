theorem gNle {x : Int32} (h : ¬ 0 ≤ x) : x < 0 := Int32.not_le.mp h
theorem gNlt {x : Int32} (h : 0 ≤ x) : ¬ x < 0 := Int32.not_lt.mpr h
theorem gSoN {so : Int32} (h1 : ¬ so = -1) (h2 : ¬ (0 ≤ so ∧ so ≤ 4)) : ¬ (-1 ≤ so ∧ so ≤ 4) := by
  intro z
  by_cases h0 : 0 ≤ so
  · exact h2 ⟨h0, z.2⟩
  · have a : so.toInt < 0 := by
      have := Int32.lt_iff_toInt_lt.mp (Int32.not_le.mp h0)
      simpa using this
    have b : -1 ≤ so.toInt := by
      have := Int32.le_iff_toInt_le.mp z.1
      rw [gz_m1] at this
      exact this
    exact h1 (Int32.toInt_inj.mp (by rw [gz_m1]; omega))
theorem gJud_o {μ : gPS} {g : Nat → Int64} {π : gPS} {t : Nat} {i : Int32} (h : gTpe μ) (ht : t < 6) (hc : ¬ (0 ≤ i ∧ i < μ 3 t)) : 100 = (if i < 0 then 100 else gJud μ g π t i.toNatClampNeg 0 12) := by
  by_cases hi : i < 0
  · rw [if_pos hi]
  · rw [if_neg hi]
    obtain ⟨z, hz, ez⟩ := gTpe_z h t ht
    obtain ⟨j, hj, ej⟩ := nI_of hi
    subst ej
    have h2 : ¬ j < z := fun q => hc ⟨Int32.not_lt.mp hi, by rw [ez]; exact (gLt rfl rfl (by omega) (by omega)).mpr q⟩
    rw [nI_clamp (by omega), gJud, if_neg (by rw [ez, nI_clamp (by omega)]; omega)]
    rfl
