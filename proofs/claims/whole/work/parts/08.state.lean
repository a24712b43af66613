/-! THE STATE, in our words: a family π of rows of ints: 0 cheer 1 means 2 kind 3 v 4 letter 5 tired 6 flown 7 rows 8..10 seen 11, 12 plan 13, 14 book; 15: size, known, day, how many seen, in the plan, in the book, which loft. -/
abbrev gPS : Type := Nat → Nat → Int32
def gU (π : gPS) (a k : Nat) (x : Int32) : gPS := fun b => bif Nat.beq b a then upd (π b) k x else π b
theorem gU_at {π : gPS} {a k : Nat} {x : Int32} : gU π a k x a = upd (π a) k x := by simp [gU]
theorem gU_ne {π : gPS} {a k b : Nat} {x : Int32} (h : b ≠ a) : gU π a k x b = π b := by
  have e : Nat.beq b a = false := by
    cases hb : Nat.beq b a with
    | false => rfl
    | true => exact absurd (Nat.eq_of_beq_eq_true hb) h
  simp [gU, e]
/-- a Rows: its cells -/
abbrev gLR (G : gW) (t n : Nat) (z : Int32) (f g h : Nat → Int32) : List va_E := [.inr (8, [.ref (t + 1), .ref (t + 2), .ref (t + 3), .int z]), .inl (G.2.1 0, n, .inl f), .inl (G.2.1 0, n, .inl g), .inl (G.2.1 0, n, .inl h)]
/-- a State: its cells but its kinds and its first loft; ρ: what lies in the rows -/
abbrev gLS (G : gW) (t : Nat) (π : gPS) (lp : Nat) (ρ : gPS) : List va_E := [.inr (9, [.ref (t + 1), .ref (t + 2), .ref (t + 3), .ref (t + 4), .ref (t + 5), .ref (t + 6), .ref (t + 7), .ref (t + 8), .ref (t + 9), .ref (t + 10), .ref (t + 14), .ref (t + 18), .int (π 15 0), .int (π 15 1), .int (π 15 2), .ref lp]),
  .inl (G.2.1 5, 7, .inr (.inr (.inr (.inr (fun i => some (t + 28 + i)))))),
  .inl (G.2.1 0, 12, .inl (π 0)), .inl (G.2.1 0, 12, .inl (π 1)), .inl (G.2.1 0, 6, .inl (π 2)), .inl (G.2.1 0, 6, .inl (π 3)), .inl (G.2.1 0, 6, .inl (π 4)), .inl (G.2.1 0, 6, .inl (π 5)), .inl (G.2.1 0, 6, .inl (π 6)), .inl (G.2.1 0, 24, .inl (π 7)),
  .inr (8, [.ref (t + 11), .ref (t + 12), .ref (t + 13), .int (π 15 3)]), .inl (G.2.1 0, 5, .inl (ρ 0)), .inl (G.2.1 0, 5, .inl (ρ 1)), .inl (G.2.1 0, 5, .inl (ρ 2)),
  .inr (8, [.ref (t + 15), .ref (t + 16), .ref (t + 17), .int (π 15 4)]), .inl (G.2.1 0, 10, .inl (ρ 3)), .inl (G.2.1 0, 10, .inl (ρ 4)), .inl (G.2.1 0, 10, .inl (ρ 5)),
  .inr (8, [.ref (t + 19), .ref (t + 20), .ref (t + 21), .int (π 15 5)]), .inl (G.2.1 0, 8, .inl (ρ 6)), .inl (G.2.1 0, 8, .inl (ρ 7)), .inl (G.2.1 0, 8, .inl (ρ 8))]
abbrev gKs : List va_E := [.inr (7, []), .inr (2, []), .inr (1, []), .inr (4, []), .inr (3, []), .inr (6, []), .inr (10, [])]
/-- of WORDS ws the first k: what they mean -/
def gMean (me : Nat → Int32) (ws : Int32) : Nat → Int32
  | 0 => 0
  | k + 1 => if ws >>> (nI k &&& 31) &&& 1 = 0 then gMean me ws k else gMean me ws k ||| me k
def gFlown (fl : Nat → Int32) : Nat → Int32
  | 0 => 0
  | k + 1 => gFlown fl k + fl k
theorem gz_0 : (0 : Int32).toInt = 0 := by decide
theorem gz_1 : (1 : Int32).toInt = 1 := by decide
theorem gz_2 : (2 : Int32).toInt = 2 := by decide
theorem gz_3 : (3 : Int32).toInt = 3 := by decide
theorem gz_4 : (4 : Int32).toInt = 4 := by decide
theorem gz_5 : (5 : Int32).toInt = 5 := by decide
theorem gz_6 : (6 : Int32).toInt = 6 := by decide
theorem gz_7 : (7 : Int32).toInt = 7 := by decide
theorem gz_8 : (8 : Int32).toInt = 8 := by decide
theorem gz_9 : (9 : Int32).toInt = 9 := by decide
theorem gz_10 : (10 : Int32).toInt = 10 := by decide
theorem gz_11 : (11 : Int32).toInt = 11 := by decide
theorem gz_12 : (12 : Int32).toInt = 12 := by decide
theorem gz_20 : (20 : Int32).toInt = 20 := by decide
theorem gz_30 : (30 : Int32).toInt = 30 := by decide
theorem gz_50 : (50 : Int32).toInt = 50 := by decide
theorem gz_57 : (57 : Int32).toInt = 57 := by decide
theorem gz_58 : (58 : Int32).toInt = 58 := by decide
theorem gz_59 : (59 : Int32).toInt = 59 := by decide
theorem gz_60 : (60 : Int32).toInt = 60 := by decide
theorem gz_61 : (61 : Int32).toInt = 61 := by decide
theorem gz_71 : (71 : Int32).toInt = 71 := by decide
theorem gz_99 : (99 : Int32).toInt = 99 := by decide
theorem gz_100 : (100 : Int32).toInt = 100 := by decide
theorem gz_110 : (110 : Int32).toInt = 110 := by decide
theorem gz_127 : (127 : Int32).toInt = 127 := by decide
theorem gz_255 : (255 : Int32).toInt = 255 := by decide
theorem gz_4095 : (4095 : Int32).toInt = 4095 := by decide
theorem gz_4096 : (4096 : Int32).toInt = 4096 := by decide
theorem gz_9999 : (9999 : Int32).toInt = 9999 := by decide
theorem gz_m1 : (-1 : Int32).toInt = -1 := by decide
theorem gLe {x y : Int32} {a b : Nat} (hx : x = nI a) (hy : y = nI b) (ha : a < 2147483648) (hb : b < 2147483648) : x ≤ y ↔ a ≤ b := by rw [hx, hy]; exact nI_leI ha hb
theorem gLt {x y : Int32} {a b : Nat} (hx : x = nI a) (hy : y = nI b) (ha : a < 2147483648) (hb : b < 2147483648) : x < y ↔ a < b := by rw [hx, hy]; exact nI_ltI ha hb
theorem gEq {x y : Int32} {a b : Nat} (hx : x = nI a) (hy : y = nI b) (ha : a < 2147483648) (hb : b < 2147483648) : x = y ↔ a = b := by rw [hx, hy]; exact nI_eq ha hb
