/-! LOWEST TERMS, the class's way: the greatest number up to k that divides both -/
def gBy (x : Int32) (b : Nat) : Nat → Nat
  | 0 => 1
  | k + 1 => if x - x / nI (k + 1) * nI (k + 1) = 0 ∧ b % (k + 1) = 0 then k + 1 else gBy x b k
theorem gTd_n (m d : Nat) : ((m : Int).tdiv d) = ((m / d : Nat) : Int) := rfl
theorem gTd_b {X : Int} {d : Nat} (h0 : 0 < d) (h1 : -2147483648 ≤ X) (h2 : X < 2147483648) : (-2147483648 ≤ X.tdiv d ∧ X.tdiv d < 2147483648) ∧ (-2147483648 ≤ X.tdiv d * d ∧ X.tdiv d * d < 2147483648) ∧ (X = X.tdiv d * d ↔ d ∣ X.natAbs) := by
  obtain ⟨m, hm⟩ := Int.eq_nat_or_neg X
  have e1 := Nat.div_le_self m d
  have e2 := Nat.div_mul_le_self m d
  have e3 : m = m / d * d ↔ d ∣ m := ⟨fun h => ⟨m / d, by rw [Nat.mul_comm]; exact h⟩, fun h => (Nat.div_mul_cancel h).symm⟩
  rcases hm with rfl | rfl
  · rw [gTd_n]
    have e4 : ((m / d : Nat) : Int) * d = ((m / d * d : Nat) : Int) := by simp
    rw [e4, Int.natAbs_natCast, ← e3]
    generalize m / d * d = z at *
    generalize m / d = y at *
    refine ⟨by omega, by omega, by omega⟩
  · rw [Int.neg_tdiv, gTd_n]
    have e4 : -((m / d : Nat) : Int) * d = -((m / d * d : Nat) : Int) := by simp [Int.neg_mul]
    rw [e4, Int.natAbs_neg, Int.natAbs_natCast, ← e3]
    generalize m / d * d = z at *
    generalize m / d = y at *
    refine ⟨by omega, by omega, by omega⟩
theorem gTdv {x : Int32} {d : Nat} (h0 : 0 < d) (hd : d ≤ 100) : (x / nI d).toInt = x.toInt.tdiv d := by
  have h1 := Int32.le_toInt x
  have h2 := Int32.toInt_lt x
  obtain ⟨⟨a, b⟩, -⟩ := gTd_b (X := x.toInt) h0 (by omega) (by omega)
  rw [Int32.toInt_div, nI_toInt (by omega), Int.bmod_eq_of_le (by omega) (by omega)]
theorem gIrm {x : Int32} {d : Nat} (h0 : 0 < d) (hd : d ≤ 100) : (x - x / nI d * nI d = 0) ↔ d ∣ x.toInt.natAbs := by
  have h1 := Int32.le_toInt x
  have h2 := Int32.toInt_lt x
  obtain ⟨-, ⟨a, b⟩, c⟩ := gTd_b (X := x.toInt) h0 (by omega) (by omega)
  have e : (x / nI d * nI d).toInt = x.toInt.tdiv d * d := by
    rw [Int32.toInt_mul, gTdv h0 hd, nI_toInt (by omega), Int.bmod_eq_of_le (by omega) (by omega)]
  rw [← c, ← e, Int32.toInt_inj]
  constructor
  · intro h
    have := congrArg (fun y => y + x / nI d * nI d) h
    simpa using this
  · intro h
    have : x - x = 0 := Int32.sub_self x
    rw [← h]
    exact this
theorem gDv64 {x : Int32} {d : Nat} (h0 : 0 < d) (hd : d ≤ 100) : (x / nI d).toInt64 = x.toInt64 / lN d := by
  have h1 := Int32.le_toInt x
  have h2 := Int32.toInt_lt x
  obtain ⟨⟨a, b⟩, -⟩ := gTd_b (X := x.toInt) h0 (by omega) (by omega)
  apply Int64.toInt_inj.mp
  rw [gI64, gTdv h0 hd, Int64.toInt_div, gI64, pk_lT (by omega), Int.bmod_eq_of_le (by omega) (by omega)]
theorem gBy_pos (x : Int32) (b : Nat) : ∀ k : Nat, 0 < gBy x b k
  | 0 => Nat.one_pos
  | k + 1 => by
    rw [gBy]
    split
    · omega
    · exact gBy_pos x b k
theorem gBy_le (x : Int32) (b : Nat) : ∀ k : Nat, 1 ≤ k → gBy x b k ≤ k
  | 0, h => absurd h (by decide)
  | k + 1, _ => by
    rw [gBy]
    split
    · exact Nat.le_refl _
    · rcases Nat.eq_zero_or_pos k with rfl | hk
      · exact Nat.le_refl _
      · exact Nat.le_succ_of_le (gBy_le x b k hk)
theorem gBy_dvd (x : Int32) (b : Nat) : ∀ k : Nat, k ≤ 100 → gBy x b k ∣ x.toInt.natAbs ∧ gBy x b k ∣ b
  | 0, _ => ⟨Nat.one_dvd _, Nat.one_dvd _⟩
  | k + 1, h => by
    rw [gBy]
    split
    · rename_i hc
      exact ⟨(gIrm (by omega) h).mp hc.1, Nat.dvd_of_mod_eq_zero hc.2⟩
    · exact gBy_dvd x b k (by omega)
theorem gBy_max (x : Int32) (b d : Nat) (h0 : 0 < d) (h1 : d ∣ x.toInt.natAbs) (h2 : d ∣ b) : ∀ k : Nat, k ≤ 100 → d ≤ k → d ≤ gBy x b k
  | 0, _, hk => absurd h0 (by omega)
  | k + 1, h, hk => by
    rw [gBy]
    split
    · exact hk
    · rename_i hc
      rcases Nat.lt_or_ge k d with z | z
      · have e : d = k + 1 := by omega
        subst e
        exact absurd ⟨(gIrm (by omega) h).mpr h1, Nat.mod_eq_zero_of_dvd h2⟩ hc
      · exact gBy_max x b d h0 h1 h2 k (by omega) z
theorem gBy_gcd {x : Int32} {b : Nat} (hb : 1 ≤ b) (hb2 : b ≤ 100) : gBy x b b = Nat.gcd x.toInt.natAbs b := by
  have hg0 : 0 < Nat.gcd x.toInt.natAbs b := Nat.gcd_pos_of_pos_right _ (by omega)
  apply Nat.le_antisymm
  · exact Nat.le_of_dvd hg0 (Nat.dvd_gcd (gBy_dvd x b b hb2).1 (gBy_dvd x b b hb2).2)
  · exact gBy_max x b _ hg0 (Nat.gcd_dvd_left _ _) (Nat.gcd_dvd_right _ _) b hb2 (Nat.le_of_dvd (by omega) (Nat.gcd_dvd_right _ _))
theorem gLt_e {x : Int32} {b : Nat} {q : Int32} (hb : 1 ≤ b) (hb2 : b ≤ 100) : ((if q = 0 then x else nI b) / nI (gBy x b b)).toInt64 = gPt x.toInt64 (nI b).toInt64 q := by
  have hp := gBy_pos x b b
  have hl := gBy_le x b b hb
  have e : Nat.gcd x.toInt64.toInt.natAbs (nI b).toInt64.toInt.natAbs = gBy x b b := by
    rw [gBy_gcd hb hb2, gI64, gI64, nI_toInt (by omega), Int.natAbs_natCast]
  unfold gPt
  rw [e, gDv64 hp (by omega)]
  split <;> rfl
