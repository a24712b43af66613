/-! FRACTIONS -/
/-- above or below the line, in lowest terms -/
def gPt (a b : Int64) (part : Int32) : Int64 := (if part = 0 then a else b) / lN (Nat.gcd a.toInt.natAbs b.toInt.natAbs)
theorem lN_of {a : Int64} {n : Nat} (h : a.toInt = n) (hn : n < 2 ^ 63) : a = lN n := Int64.toInt_inj.mp (by rw [h, pk_lT hn])
theorem gAbs {a : Int64} (hb : -2147483648 ≤ a.toInt) (hc : a.toInt ≤ 2147483648) : (if 0 < a then a else -a) = lN a.toInt.natAbs := by
  by_cases h : 0 < a
  · have h0 : (0 : Int) < a.toInt := by
      have := Int64.lt_iff_toInt_lt.mp h
      simpa using this
    rw [if_pos h]
    exact lN_of (by omega) (by omega)
  · have h0 : a.toInt ≤ 0 := by
      have := Int64.le_iff_toInt_le.mp (Int64.not_lt.mp h)
      simpa using this
    rw [if_neg h]
    refine lN_of ?_ (by omega)
    rw [Int64.toInt_neg, Int.bmod_def]
    split <;> omega
theorem lN_ne0 {n : Nat} (h : 0 < n) (hn : n < 2 ^ 63) : ¬ lN n = 0 := fun z => by
  have := (pk_lEQ (a := n) (b := 0) hn (by omega)).mp z
  omega
