/-! FRACTIONS -/
/-- above or below the line, in lowest terms -/
def gPt (a b : Int64) (part : Int32) : Int64 := (if part = 0 then a else b) / lN (Nat.gcd a.toInt.natAbs b.toInt.natAbs)
theorem lN_of {a : Int64} {n : Nat} (h : a.toInt = n) (hn : n < 2 ^ 63) : a = lN n := Int64.toInt_inj.mp (by rw [h, pk_lT hn])
theorem gAbs {a : Int64} (hb : -2147483648 ≤ a.toInt) (hc : a.toInt ≤ 2147483648) : (if 0 < a then a else -a) = lN a.toInt.natAbs := by
  by_cases h : 0 < a
  · have h0 : (0 : Int) < a.toInt := by
      have := Int64.lt_iff_toInt_lt.mp h
      simpa using this
    rw [if_pos h]
    exact lN_of (by omega) (by omega)
  · have h0 : a.toInt ≤ 0 := by
      have := Int64.le_iff_toInt_le.mp (Int64.not_lt.mp h)
      simpa using this
    rw [if_neg h]
    refine lN_of ?_ (by omega)
    rw [Int64.toInt_neg, Int.bmod_def]
    split <;> omega
theorem lN_ne0 {n : Nat} (h : 0 < n) (hn : n < 2 ^ 63) : ¬ lN n = 0 := fun z => by
  have := (pk_lEQ (a := n) (b := 0) hn (by omega)).mp z
  omega
theorem gI64 (x : Int32) : x.toInt64.toInt = x.toInt := by simp
theorem gI64_lo (x : Int32) : -2147483648 ≤ x.toInt64.toInt := by rw [gI64]; exact Int32.le_toInt x
theorem gI64_hi (x : Int32) : x.toInt64.toInt ≤ 2147483648 := by rw [gI64]; have := Int32.toInt_lt x; omega
theorem gMea_n (π : gPS) (L : gLf) : ∀ n : Nat, ∃ c : Nat, c ≤ n ∧ (gMea π L n).2 = nI c
  | 0 => ⟨0, Nat.le_refl 0, rfl⟩
  | n + 1 => by
    obtain ⟨c, hc, e⟩ := gMea_n π L n
    by_cases h : π 4 n = 0
    · exact ⟨c, by omega, by rw [gMea, if_pos h, e]⟩
    · exact ⟨c + 1, by omega, by rw [gMea, if_neg h]; show (gMea π L n).2 + 1 = _; rw [e, nI_1]⟩
theorem gDn : ∀ k : Nat, k < 10 → 9 - nI k = nI (9 - k) := by decide
theorem gDn_s : ∀ k : Nat, k < 10 → nI (9 - k) + (-1) = 9 - nI (k + 1) := by decide
theorem gPw : ∀ n : Nat, n < 7 → (1 : Int32) <<< (nI n &&& 31) = nI (2 ^ n) := by decide
theorem gPw_le : ∀ n : Nat, n < 7 → 2 ^ n ≤ 64 := by decide
