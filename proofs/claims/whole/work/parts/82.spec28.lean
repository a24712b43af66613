/-! TAPES of the class -/
/-- what tapes hold -/
def gTpe (μ : gPS) : Prop := ∀ t, t < 6 → (μ 2 t = -1 ∧ μ 3 t = 0) ∨ ∃ so z : Nat, so < 5 ∧ z ≤ 60 ∧ μ 2 t = nI so ∧ μ 3 t = nI z
theorem gTpe_z {μ : gPS} (h : gTpe μ) : ∀ t, t < 6 → ∃ z, z ≤ 60 ∧ μ 3 t = nI z := fun t ht => by
  rcases h t ht with ⟨a, b⟩ | ⟨so, z, a, b, c, d⟩
  · exact ⟨0, by omega, b⟩
  · exact ⟨z, b, d⟩
/-- a tape's sort below 0: it is -1 -/
theorem gTpe_n {μ : gPS} (h : gTpe μ) {t : Nat} (ht : t < 6) (hn : μ 2 t < 0) : μ 2 t = -1 ∧ μ 3 t = 0 := by
  rcases h t ht with ⟨a, b⟩ | ⟨so, z, a, b, c, d⟩
  · exact ⟨a, b⟩
  · exact absurd hn (by rw [c]; exact nI_pos (by omega))
theorem gTpe_p {μ : gPS} (h : gTpe μ) {t : Nat} (ht : t < 6) (hn : ¬ μ 2 t < 0) : ¬ μ 2 t = -1 := fun z => hn (by rw [z]; decide)
theorem gShc {z i n : Nat} (hz : z ≤ 60) (hi : i < 2147483648) (hn : n < 2147483648) : nI z - nI n < nI i ↔ z < i + n := by
  have e : (nI z - nI n).toInt = (z : Int) - n := by
    rw [Int32.toInt_sub, nI_toInt (by omega), nI_toInt hn, Int.bmod_eq_of_le (by omega) (by omega)]
  rw [Int32.lt_iff_toInt_lt, e, nI_toInt hi]
  omega
theorem gRows_cp {G : gW} {b t o i j n : Nat} {g rs rd : Nat → Int64} {H H1 : Heap} (h : gRows G b g H) (ho : o < 6) (hi : i + n ≤ 60) (hj : j + n ≤ 60) (hs : ∀ i, i < 60 → rs i = g (60 * t + i)) (hd : ∀ i, i < 60 → rd i = g (60 * o + i)) (hx : gAt G (b + o) (.inl (G.2.1 2, 60, .inr (.inl (va_cpy rs rd i j n)))) H1) (oq : ∀ q : Nat, q ≠ b + o → H1[q]? = H[q]?) : gRows G b (gMv g (60 * t + i) (60 * o + j) n) H1 := by
  intro s hs6
  by_cases e : s = o
  · subst e
    refine ⟨_, hx, fun k hk => ?_⟩
    unfold va_cpy gMv
    by_cases z : j ≤ k ∧ k < j + n
    · rw [if_pos z, if_pos (by omega), hs _ (by omega)]
      congr 1
      omega
    · rw [if_neg z, if_neg (by omega)]
      exact hd k hk
  · obtain ⟨r2, h1, h2⟩ := h s hs6
    refine ⟨r2, h1.kept (oq _ (by omega)), fun k hk => ?_⟩
    unfold gMv
    rw [if_neg (by omega)]
    exact h2 k hk
