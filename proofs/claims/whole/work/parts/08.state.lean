/-! THE STATE, in our words: a family π of rows of ints: 0 cheer 1 means 2 kind 3 v 4 letter 5 tired 6 flown 7 rows 8..10 seen 11, 12 plan 13, 14 book; 15: size, known, day, how many seen, in the plan, in the book, which loft. -/
abbrev gPS : Type := Nat → Nat → Int32
def gU (π : gPS) (a k : Nat) (x : Int32) : gPS := fun b => bif Nat.beq b a then upd (π b) k x else π b
theorem gU_at {π : gPS} {a k : Nat} {x : Int32} : gU π a k x a = upd (π a) k x := by simp [gU]
theorem gU_ne {π : gPS} {a k b : Nat} {x : Int32} (h : b ≠ a) : gU π a k x b = π b := by
  have e : Nat.beq b a = false := by
    cases hb : Nat.beq b a with
    | false => rfl
    | true => exact absurd (Nat.eq_of_beq_eq_true hb) h
  simp [gU, e]
/-- a Rows: its cells -/
abbrev gLR (G : gW) (t n : Nat) (z : Int32) (f g h : Nat → Int32) : List va_E := [.inr (8, [.ref (t + 1), .ref (t + 2), .ref (t + 3), .int z]), .inl (G.2.1 0, n, .inl f), .inl (G.2.1 0, n, .inl g), .inl (G.2.1 0, n, .inl h)]
/-- a State: its cells but its kinds and its first loft; ρ: what lies in the rows -/
abbrev gLS (G : gW) (t : Nat) (π : gPS) (lp : Nat) (ρ : gPS) : List va_E := [.inr (9, [.ref (t + 1), .ref (t + 2), .ref (t + 3), .ref (t + 4), .ref (t + 5), .ref (t + 6), .ref (t + 7), .ref (t + 8), .ref (t + 9), .ref (t + 10), .ref (t + 14), .ref (t + 18), .int (π 15 0), .int (π 15 1), .int (π 15 2), .ref lp]),
  .inl (G.2.1 5, 7, .inr (.inr (.inr (.inr (fun i => some (t + 28 + i)))))),
  .inl (G.2.1 0, 12, .inl (π 0)), .inl (G.2.1 0, 12, .inl (π 1)), .inl (G.2.1 0, 6, .inl (π 2)), .inl (G.2.1 0, 6, .inl (π 3)), .inl (G.2.1 0, 6, .inl (π 4)), .inl (G.2.1 0, 6, .inl (π 5)), .inl (G.2.1 0, 6, .inl (π 6)), .inl (G.2.1 0, 24, .inl (π 7)),
  .inr (8, [.ref (t + 11), .ref (t + 12), .ref (t + 13), .int (π 15 3)]), .inl (G.2.1 0, 5, .inl (ρ 0)), .inl (G.2.1 0, 5, .inl (ρ 1)), .inl (G.2.1 0, 5, .inl (ρ 2)),
  .inr (8, [.ref (t + 15), .ref (t + 16), .ref (t + 17), .int (π 15 4)]), .inl (G.2.1 0, 10, .inl (ρ 3)), .inl (G.2.1 0, 10, .inl (ρ 4)), .inl (G.2.1 0, 10, .inl (ρ 5)),
  .inr (8, [.ref (t + 19), .ref (t + 20), .ref (t + 21), .int (π 15 5)]), .inl (G.2.1 0, 8, .inl (ρ 6)), .inl (G.2.1 0, 8, .inl (ρ 7)), .inl (G.2.1 0, 8, .inl (ρ 8))]
abbrev gKs : List va_E := [.inr (7, []), .inr (2, []), .inr (1, []), .inr (4, []), .inr (3, []), .inr (6, []), .inr (10, [])]
/-- of WORDS ws the first k: what they mean -/
def gMean (me : Nat → Int32) (ws : Int32) : Nat → Int32
  | 0 => 0
  | k + 1 => if ws >>> (nI k &&& 31) &&& 1 = 0 then gMean me ws k else gMean me ws k ||| me k
def gFlown (fl : Nat → Int32) : Nat → Int32
  | 0 => 0
  | k + 1 => gFlown fl k + fl k
theorem gz_0 : (0 : Int32).toInt = 0 := by decide
theorem gz_1 : (1 : Int32).toInt = 1 := by decide
theorem gz_2 : (2 : Int32).toInt = 2 := by decide
theorem gz_3 : (3 : Int32).toInt = 3 := by decide
theorem gz_4 : (4 : Int32).toInt = 4 := by decide
theorem gz_5 : (5 : Int32).toInt = 5 := by decide
theorem gz_6 : (6 : Int32).toInt = 6 := by decide
theorem gz_7 : (7 : Int32).toInt = 7 := by decide
theorem gz_8 : (8 : Int32).toInt = 8 := by decide
theorem gz_9 : (9 : Int32).toInt = 9 := by decide
theorem gz_10 : (10 : Int32).toInt = 10 := by decide
theorem gz_11 : (11 : Int32).toInt = 11 := by decide
theorem gz_12 : (12 : Int32).toInt = 12 := by decide
theorem gz_20 : (20 : Int32).toInt = 20 := by decide
theorem gz_30 : (30 : Int32).toInt = 30 := by decide
theorem gz_50 : (50 : Int32).toInt = 50 := by decide
theorem gz_57 : (57 : Int32).toInt = 57 := by decide
theorem gz_58 : (58 : Int32).toInt = 58 := by decide
theorem gz_59 : (59 : Int32).toInt = 59 := by decide
theorem gz_60 : (60 : Int32).toInt = 60 := by decide
theorem gz_61 : (61 : Int32).toInt = 61 := by decide
theorem gz_71 : (71 : Int32).toInt = 71 := by decide
theorem gz_99 : (99 : Int32).toInt = 99 := by decide
theorem gz_100 : (100 : Int32).toInt = 100 := by decide
theorem gz_110 : (110 : Int32).toInt = 110 := by decide
theorem gz_127 : (127 : Int32).toInt = 127 := by decide
theorem gz_255 : (255 : Int32).toInt = 255 := by decide
theorem gz_4095 : (4095 : Int32).toInt = 4095 := by decide
theorem gz_4096 : (4096 : Int32).toInt = 4096 := by decide
theorem gz_9999 : (9999 : Int32).toInt = 9999 := by decide
theorem gz_m1 : (-1 : Int32).toInt = -1 := by decide
theorem gLe {x y : Int32} {a b : Nat} (hx : x = nI a) (hy : y = nI b) (ha : a < 2147483648) (hb : b < 2147483648) : x ≤ y ↔ a ≤ b := by rw [hx, hy]; exact nI_leI ha hb
theorem gLt {x y : Int32} {a b : Nat} (hx : x = nI a) (hy : y = nI b) (ha : a < 2147483648) (hb : b < 2147483648) : x < y ↔ a < b := by rw [hx, hy]; exact nI_ltI ha hb
theorem gEq {x y : Int32} {a b : Nat} (hx : x = nI a) (hy : y = nI b) (ha : a < 2147483648) (hb : b < 2147483648) : x = y ↔ a = b := by rw [hx, hy]; exact nI_eq ha hb
/-- a Loft: its cells. λ: 0 text 1 steps 2 weights 3 starts 4 numbers; 5: end, at, stepCount, weighed, rest -/
abbrev gLL (G : gW) (t : Nat) (f : gPS) : List va_E := [.inr (5, [.ref (t + 1), .int (f 5 0), .int (f 5 1), .ref (t + 2), .int (f 5 2), .ref (t + 3), .ref (t + 4), .int (f 5 3), .ref (t + 5), .int (f 5 4)]), .inl (G.2.1 1, 100, .inl (f 0)), .inl (G.2.1 0, 100, .inl (f 1)), .inl (G.2.1 0, 10, .inl (f 2)), .inl (G.2.1 0, 11, .inl (f 3)), .inl (G.2.1 0, 6, .inl (f 4))]
/-- an Act. f: 0 bodies; 1: ran, i, v -/
abbrev gLA (G : gW) (t : Nat) (f : gPS) : List va_E := [.inr (0, [.ref (t + 1), .int (f 1 0), .int (f 1 1), .int (f 1 2)]), .inl (G.2.1 0, 20, .inl (f 0))]
/-- the Model. π: as a State's (its rows are what lies there); μ: 0 text 1 traces 2 tapeSort 3 tapeSize; 4: texted, traced, imaged, lofts; f: 1 clauses 2 word 3 number 4 begins 5 length 6 code 7 stack 9 image 10 ahead; 13: -, at, value, digits, open, -, coded; g: the items -/
abbrev gLM (G : gW) (t : Nat) (π μ f : gPS) (g : Nat → Int64) : List va_E := [.inr (12, [.ref (t + 1), .ref (t + 2), .int (π 15 1), .int (π 15 0), .ref (t + 3), .ref (t + 4), .ref (t + 5), .ref (t + 6), .ref (t + 7), .ref (t + 8), .int (π 15 2), .int (μ 4 0), .ref (t + 9), .int (f 13 1), .int (f 13 2), .int (f 13 3), .int (f 13 4), .int (μ 4 3), .int (π 15 6), .ref (t + 10), .ref (t + 11), .ref (t + 12), .ref (t + 13), .ref (t + 14), .ref (t + 15), .int (f 13 6), .ref (t + 16), .int (π 15 3), .ref (t + 17), .ref (t + 18), .ref (t + 19), .int (π 15 4), .ref (t + 20), .ref (t + 21), .int (π 15 5), .ref (t + 22), .ref (t + 23), .int (μ 4 1), .ref (t + 24), .int (μ 4 2), .ref (t + 25), .ref (t + 26), .ref (t + 27), .ref (t + 28), .ref (t + 29)]),
  .inl (G.2.1 0, 12, .inl (π 0)), .inl (G.2.1 0, 12, .inl (π 1)), .inl (G.2.1 0, 6, .inl (π 2)), .inl (G.2.1 0, 6, .inl (π 3)), .inl (G.2.1 0, 6, .inl (π 4)), .inl (G.2.1 0, 6, .inl (π 5)), .inl (G.2.1 0, 6, .inl (π 6)), .inl (G.2.1 0, 24, .inl (π 7)),
  .inl (G.2.1 0, 100, .inl (μ 0)), .inl (G.2.1 0, 6, .inl (f 1)), .inl (G.2.1 0, 61, .inl (f 2)), .inl (G.2.1 0, 61, .inl (f 3)), .inl (G.2.1 0, 61, .inl (f 4)), .inl (G.2.1 0, 61, .inl (f 5)), .inl (G.2.1 0, 800, .inl (f 6)), .inl (G.2.1 3, 110, .inl (f 7)),
  .inl (G.2.1 0, 5, .inl (π 8)), .inl (G.2.1 0, 5, .inl (π 9)), .inl (G.2.1 0, 5, .inl (π 10)), .inl (G.2.1 0, 10, .inl (π 11)), .inl (G.2.1 0, 10, .inl (π 12)), .inl (G.2.1 0, 8, .inl (π 13)), .inl (G.2.1 0, 8, .inl (π 14)),
  .inl (G.2.1 0, 20, .inl (μ 1)), .inl (G.2.1 0, 136, .inl (f 9)), .inl (G.2.1 0, 136, .inl (f 10)), .inl (G.2.1 0, 6, .inl (μ 2)), .inl (G.2.1 0, 6, .inl (μ 3)), .inl (G.2.1 2, 360, .inr (.inl g))]
theorem gIx {z p : Int32} {n : Nat} (hz : z = nI n) (hn : n ≤ 4096) (h : 0 ≤ p ∧ p < z) : ∃ k : Nat, k < n ∧ p = nI k := by
  obtain ⟨h0, h1⟩ := h
  obtain ⟨j, hj, rfl⟩ := nI_of (Int32.not_lt.mpr h0)
  rw [hz] at h1
  exact ⟨j, (nI_ltI hj (by omega)).mp h1, rfl⟩
/-- an int between two -/
theorem gIw {p M : Int32} {n : Nat} (hM : M = nI n) (hn : n < 2147483648) (h : 0 ≤ p ∧ p ≤ M) : ∃ k : Nat, k ≤ n ∧ p = nI k := by
  obtain ⟨h0, h1⟩ := h
  obtain ⟨j, hj, rfl⟩ := nI_of (Int32.not_lt.mpr h0)
  rw [hM] at h1
  exact ⟨j, (nI_leI hj hn).mp h1, rfl⟩
theorem gPred {z p : Int32} {n : Nat} (hz : z = nI n) (hn : n ≤ 4096) : (0 ≤ p ∧ p ≤ z - 1) ↔ (0 ≤ p ∧ p < z) := by
  subst hz
  cases n with
  | zero =>
    constructor
    · intro h
      have : (0 : Int32) ≤ 0 - 1 := Int32.le_trans h.1 h.2
      exact absurd this (by decide)
    · intro h
      exact absurd (Int32.lt_of_le_of_lt h.1 h.2) (by decide)
  | succ n =>
    rw [nI_pred]
    constructor
    · intro h
      obtain ⟨k, hk, rfl⟩ := gIw rfl (by omega) h
      exact ⟨h.1, (nI_ltI (by omega) (by omega)).mpr (by omega)⟩
    · intro h
      obtain ⟨k, hk, rfl⟩ := gIx (n := n + 1) rfl hn h
      exact ⟨h.1, (nI_leI (by omega) (by omega)).mpr (by omega)⟩
theorem gB_c {P R : Prop} [Decidable P] [Decidable R] (h : P ↔ R) : gB P = gB R := by
  unfold gB
  by_cases p : P
  · rw [if_pos p, if_pos (h.mp p)]
  · rw [if_neg p, if_neg (fun z => p (h.mpr z))]
/-- answers that several calls give -/
def gqLetter (π : gPS) (p w : Int32) : Int32 × gPS := if 0 ≤ p ∧ p < π 15 0 then (if 0 ≤ w ∧ w ≤ 4095 then (π 4 p.toNatClampNeg, gU π 4 p.toNatClampNeg w) else (-2, π)) else (-1, π)
def gqTire (π : gPS) (p w : Int32) : Int32 × gPS := if 0 ≤ p ∧ p < π 15 0 then (if 0 ≤ w ∧ w ≤ 9 then (π 5 p.toNatClampNeg, gU π 5 p.toNatClampNeg w) else (-2, π)) else (-1, π)
