/-! DAYS GONE, PLANS, in our words -/
theorem gHold_10 {π f : gPS} {L : gLf} {E : Nat → Int32} (h : gHold π f L) : gHold π (gR f 10 E) L := h
theorem gDay_15 {π : gPS} {L : gLf} {n j : Nat} (h1 : j ≠ 1) (h2 : j ≠ 2) : (gDay π L n) 15 j = π 15 j := by
  unfold gDay
  rw [gU_o h2, gDy_15 h1]
def gDs (π : gPS) (L : gLf) (n : Nat) : Nat → gPS
  | 0 => π
  | k + 1 => gDay (gDs π L n k) L n
theorem gDs_15 {π : gPS} {L : gLf} {n j : Nat} (h1 : j ≠ 1) (h2 : j ≠ 2) : ∀ k : Nat, (gDs π L n k) 15 j = π 15 j
  | 0 => rfl
  | k + 1 => by rw [gDs, gDay_15 h1 h2, gDs_15 h1 h2 k]
/-- the days behind which fact x is known, of the first i looked at -/
def gCom (π : gPS) (L : gLf) (n x : Nat) : Nat → Int32
  | 0 => -5
  | i + 1 => if gCom π L n x i = -5 then (if (gDs π L n i) 15 1 >>> (nI x &&& 31) &&& 1 = 0 then -5 else nI i) else gCom π L n x i
theorem gCom_st {π : gPS} {L : gLf} {n x i : Nat} (h : ¬ gCom π L n x i = -5) : ∀ d : Nat, gCom π L n x (i + d) = gCom π L n x i
  | 0 => rfl
  | d + 1 => by
    have e := gCom_st h d
    show gCom π L n x (i + d + 1) = _
    rw [gCom, e, if_neg h]
/-- what is no row of a day: all but known, letter, tired, flown, the day -/
theorem gDp_r {π : gPS} {L : gLf} {r : Int32} {k a : Nat} (h15 : a ≠ 15) (h4 : a ≠ 4) (h5 : a ≠ 5) (h6 : a ≠ 6) : (gDp π L r k) a = π a := by
  unfold gDp
  by_cases h : gFly π L k
  · rw [if_pos h, gU_ne h6, gU_ne h5, gU_ne h4, gU_ne h15]
  · rw [if_neg h, gU_ne h5]
theorem gDy_r {π : gPS} {L : gLf} {r : Int32} {a : Nat} (h15 : a ≠ 15) (h4 : a ≠ 4) (h5 : a ≠ 5) (h6 : a ≠ 6) : ∀ k : Nat, (gDy π L r k) a = π a
  | 0 => rfl
  | k + 1 => by rw [gDy, gDp_r h15 h4 h5 h6, gDy_r h15 h4 h5 h6 k]
theorem gDay_r {π : gPS} {L : gLf} {n a : Nat} (h15 : a ≠ 15) (h4 : a ≠ 4) (h5 : a ≠ 5) (h6 : a ≠ 6) : (gDay π L n) a = π a := by
  unfold gDay
  rw [gU_ne h15, gDy_r h15 h4 h5 h6]
/-- one row of a plan -/
def gPl1 (π : gPS) (L : gLf) (n : Nat) (goes : Int32) (q : Nat) : gPS := if goes = 0 then gDay π L n else if goes = 1 then gU π 4 q 0 else if goes = 2 then gU π 5 q 0 else gU π 0 q 9
def gPl (π : gPS) (L : gLf) (n : Nat) : Nat → gPS
  | 0 => π
  | k + 1 => gPl1 (gPl π L n k) L n (π 11 k) (π 12 k).toNatClampNeg
theorem gPl1_15 {π : gPS} {L : gLf} {n j q : Nat} {g : Int32} (h1 : j ≠ 1) (h2 : j ≠ 2) : (gPl1 π L n g q) 15 j = π 15 j := by
  unfold gPl1
  split
  · exact gDay_15 h1 h2
  · split
    · rw [gU_ne (by decide)]
    · split
      · rw [gU_ne (by decide)]
      · rw [gU_ne (by decide)]
theorem gPl_15 {π : gPS} {L : gLf} {n j : Nat} (h1 : j ≠ 1) (h2 : j ≠ 2) : ∀ k : Nat, (gPl π L n k) 15 j = π 15 j
  | 0 => rfl
  | k + 1 => by rw [gPl, gPl1_15 h1 h2, gPl_15 h1 h2 k]
theorem gPl1_r {π : gPS} {L : gLf} {n a q : Nat} {g : Int32} (h0 : a ≠ 0) (h15 : a ≠ 15) (h4 : a ≠ 4) (h5 : a ≠ 5) (h6 : a ≠ 6) : (gPl1 π L n g q) a = π a := by
  unfold gPl1
  split
  · exact gDay_r h15 h4 h5 h6
  · split
    · rw [gU_ne h4]
    · split
      · rw [gU_ne h5]
      · rw [gU_ne h0]
theorem gPl_r {π : gPS} {L : gLf} {n a : Nat} (h0 : a ≠ 0) (h15 : a ≠ 15) (h4 : a ≠ 4) (h5 : a ≠ 5) (h6 : a ≠ 6) : ∀ k : Nat, (gPl π L n k) a = π a
  | 0 => rfl
  | k + 1 => by rw [gPl, gPl1_r h0 h15 h4 h5 h6, gPl_r h0 h15 h4 h5 h6 k]
/-- what a plan's rows may be -/
def gPlOk (π : gPS) (pn : Nat) : Prop := ∀ k, k < pn → π 11 k = 0 ∨ ((π 11 k = 1 ∨ π 11 k = 2) ∧ ∃ q, q < 6 ∧ π 12 k = nI q) ∨ (π 11 k = 3 ∧ ∃ q, q < 12 ∧ π 12 k = nI q)
/-- FLOWN, 9999 at most -/
def gMn (π : gPS) : Nat → gPS
  | 0 => π
  | p + 1 => gU (gMn π p) 6 p (if (gMn π p) 6 p < 9999 then (gMn π p) 6 p else 9999)
theorem gMn_r {π : gPS} {a : Nat} (h : a ≠ 6) : ∀ p : Nat, (gMn π p) a = π a
  | 0 => rfl
  | p + 1 => by rw [gMn, gU_ne h, gMn_r h p]
def gPa (π : gPS) (L : gLf) (n : Nat) : Nat → gPS
  | 0 => π
  | k + 1 => gMn (gDay (gPa π L n k) L n) n
theorem gPa_15 {π : gPS} {L : gLf} {n j : Nat} (h1 : j ≠ 1) (h2 : j ≠ 2) : ∀ k : Nat, (gPa π L n k) 15 j = π 15 j
  | 0 => rfl
  | k + 1 => by rw [gPa, gMn_r (by decide), gDay_15 h1 h2, gPa_15 h1 h2 k]
