/-! WHAT THE CALLS ANSWER, in our words; class and reference are both held to these. -/
def gqPhrase (π : gPS) (w what n : Int32) : Int32 × gPS := if 0 ≤ w ∧ w ≤ 11 then (if 0 ≤ what ∧ what ≤ 1 then (if what = 0 then (if 0 ≤ n ∧ n ≤ 9 then (π 0 w.toNatClampNeg, gU π 0 w.toNatClampNeg n) else (-2, π)) else (if 0 ≤ n ∧ n ≤ 255 then (π 1 w.toNatClampNeg, gU π 1 w.toNatClampNeg n) else (-2, π))) else (-1, π)) else (-1, π)
def gqRow (π : gPS) (p part n : Int32) : Int32 × gPS := if 0 ≤ p ∧ p < π 15 0 then (if 0 ≤ part ∧ part ≤ 3 then (if 0 ≤ n ∧ n ≤ 9 then (if π 2 p.toNatClampNeg = 6 then (π 7 (4 * p.toNatClampNeg + part.toNatClampNeg), gU π 7 (4 * p.toNatClampNeg + part.toNatClampNeg) n) else (-3, π)) else (-2, π)) else (-1, π)) else (-1, π)
def gqFeed (μ : gPS) (sign : Int32) : Int32 × gPS := if 0 ≤ sign ∧ sign ≤ 127 then (if μ 4 0 = 100 then (-4, μ) else (μ 4 0 + 1, gU (gU μ 4 0 (μ 4 0 + 1)) 0 (μ 4 0).toNatClampNeg sign)) else (-2, μ)
def gqCount (π μ : gPS) (what : Int32) : Int32 := if what = 0 then π 15 0 else if what = 1 then μ 4 3 else if what = 2 then π 15 3 else if what = 3 then π 15 4 else if what = 4 then π 15 5 else if what = 5 then μ 4 0 else if what = 6 then μ 4 1 else -2
def gqTrace (μ : gPS) (i : Int32) : Int32 := if 0 ≤ i ∧ i < μ 4 1 ∧ i < 20 then μ 1 i.toNatClampNeg else -1
def gqBook (π : gPS) (w c : Int32) : Int32 × gPS := if w = -1 then (0, gU π 15 5 0) else if 0 ≤ w ∧ w ≤ 11 then (if 0 ≤ c ∧ c ≤ 9 then (if π 15 5 = 8 then (-4, π) else (π 15 5 + 1, gU (gU (gU π 13 (π 15 5).toNatClampNeg w) 15 5 (π 15 5 + 1)) 14 (π 15 5).toNatClampNeg c)) else (-2, π)) else (-1, π)
def gqSee (π : gPS) (p w so : Int32) : Int32 × gPS := if p = -1 then (0, gU π 15 3 0) else if 0 ≤ p ∧ p < π 15 0 then (if 0 ≤ w ∧ w ≤ 4095 then (if π 15 3 = 5 then (-4, π) else (π 15 3 + 1, gU (gU (gU (gU π 8 (π 15 3).toNatClampNeg p) 9 (π 15 3).toNatClampNeg w) 15 3 (π 15 3 + 1)) 10 (π 15 3).toNatClampNeg (if so = 0 then 0 else 1))) else (-2, π)) else (-1, π)
def gqPlanF (π : gPS) (what n : Int32) : Int32 × gPS := if π 15 4 = 10 then (-4, π) else (π 15 4 + 1, gU (gU (gU π 11 (π 15 4).toNatClampNeg what) 15 4 (π 15 4 + 1)) 12 (π 15 4).toNatClampNeg (if what = 0 then 0 else n))
def gqPlan (π : gPS) (what n : Int32) : Int32 × gPS := if what = -1 then (0, gU π 15 4 0) else if 0 ≤ what ∧ what ≤ 3 then (if 1 ≤ what ∧ what ≤ 2 then (if 0 ≤ n ∧ n < π 15 0 then gqPlanF π what n else (-1, π)) else if what = 3 then (if 0 ≤ n ∧ n ≤ 11 then gqPlanF π what n else (-1, π)) else gqPlanF π what n) else (-1, π)
/-- the first row of the book, from k on, of d, by which a cheer is otherwise -/
def gLook (π : gPS) (k : Nat) : Nat → Int32
  | 0 => -5
  | d + 1 => if π 0 (π 13 k).toNatClampNeg = π 14 k then gLook π (k + 1) d else nI k
/-- an item as its sort keeps it -/
def gKept (sort : Int32) (v : Int64) : Int64 := if sort = 0 then v.toInt32.toInt8.toInt32.toInt64 else if sort = 1 then v.toInt32.toInt16.toInt32.toInt64 else if sort = 2 then v.toInt32.toInt64 else if sort = 3 then v else if v = 0 then 0 else 1
def gqItem (μ : gPS) (g : Nat → Int64) (t i : Int32) (v : Int64) : Int32 × (Nat → Int64) := if 0 ≤ t ∧ t ≤ 5 then (if 0 ≤ μ 2 t.toNatClampNeg then (if 0 ≤ i ∧ i < μ 3 t.toNatClampNeg then (1, vp_updL g (60 * t.toNatClampNeg + i.toNatClampNeg) (gKept (μ 2 t.toNatClampNeg) v)) else (-13, g)) else (-11, g)) else (-1, g)
def gqRead (μ : gPS) (g : Nat → Int64) (t i : Int32) : Int64 := if 0 ≤ t ∧ t ≤ 5 then (if μ 2 t.toNatClampNeg < 0 then -9223372036854775808 else if 0 ≤ i ∧ i < μ 3 t.toNatClampNeg then g (60 * t.toNatClampNeg + i.toNatClampNeg) else -9223372036854775808) else -9223372036854775808
/-- the items with those of row t all 0 -/
def gZer (g : Nat → Int64) (t k : Nat) : Nat → Int64 := fun j => if 60 * t ≤ j ∧ j < 60 * t + k then 0 else g j
def gqTape (μ : gPS) (g : Nat → Int64) (t sort n : Int32) : Int32 × gPS × (Nat → Int64) := if 0 ≤ t ∧ t ≤ 5 then (if -1 ≤ sort ∧ sort ≤ 4 then (if sort < 0 then (1, gU (gU μ 2 t.toNatClampNeg sort) 3 t.toNatClampNeg 0, gZer g t.toNatClampNeg 60) else if n ≤ 60 then (if 0 ≤ n then (1, gU (gU μ 2 t.toNatClampNeg sort) 3 t.toNatClampNeg n, gZer g t.toNatClampNeg 60) else (-14, μ, g)) else (-2, μ, g)) else (-2, μ, g)) else (-1, μ, g)
theorem gZer_0 (g : Nat → Int64) (t : Nat) : gZer g t 0 = g := by
  funext j
  unfold gZer
  rw [if_neg (by omega)]
theorem gZer_s (g : Nat → Int64) (t k : Nat) : vp_updL (gZer g t k) (60 * t + k) 0 = gZer g t (k + 1) := by
  funext j
  unfold vp_updL gZer
  by_cases h : j = 60 * t + k
  · rw [if_pos h, if_pos (by omega)]
  · rw [if_neg h]
    by_cases h2 : 60 * t ≤ j ∧ j < 60 * t + k
    · rw [if_pos h2, if_pos (by omega)]
    · rw [if_neg h2, if_neg (by omega)]
/-- what is above a kind -/
def gAbove (k : Int32) : Int32 := if k = 4 then 1 else if k = 5 then 2 else if k = 6 then 3 else 0
/-- k is the kind c or above it -/
def gUp (c k : Int32) : Prop := k = c ∨ k = 0 ∨ (c = 4 ∧ k = 1) ∨ (c = 5 ∧ k = 2) ∨ (c = 6 ∧ k = 3)
def gqTaken (π : gPS) (p k : Int32) : Int32 := if 0 ≤ k ∧ k ≤ 6 then (if 0 ≤ p ∧ p < π 15 0 then (if (k = π 2 p.toNatClampNeg ∨ k = 0 ∨ (π 2 p.toNatClampNeg = 4 ∧ k = 1) ∨ (π 2 p.toNatClampNeg = 5 ∧ k = 2) ∨ (π 2 p.toNatClampNeg = 6 ∧ k = 3)) then π 2 p.toNatClampNeg else -12) else -11) else -2
/-- the first word, from w on, of d, whose cheer a row tells otherwise -/
def gJud (μ : gPS) (g : Nat → Int64) (π : gPS) (t i w : Nat) : Nat → Int32
  | 0 => -5
  | d + 1 => if i + w < (μ 3 t).toNatClampNeg then (if g (60 * t + i + w) = (π 0 w).toInt64 then gJud μ g π t i (w + 1) d else nI w) else nI (100 + w)
def gqJudge (π μ : gPS) (g : Nat → Int64) (t i : Int32) : Int32 := if 0 ≤ t ∧ t ≤ 5 then (if μ 2 t.toNatClampNeg = -1 then 100 else if μ 2 t.toNatClampNeg = 2 then (if i < 0 then 100 else gJud μ g π t.toNatClampNeg i.toNatClampNeg 0 12) else -12) else -1
/-- n items of g from a on, come to b on -/
def gMv (g : Nat → Int64) (a b n : Nat) : Nat → Int64 := fun q => if b ≤ q ∧ q < b + n then g (a + (q - b)) else g q
/-- the last d of n items moved -/
def gMb (g : Nat → Int64) (a b n d : Nat) : Nat → Int64 := fun q => if b + n ≤ q + d ∧ q < b + n then g (a + (q - b)) else g q
theorem gMv_0 (g : Nat → Int64) (a b : Nat) : gMv g a b 0 = g := by
  funext q
  unfold gMv
  rw [if_neg (by omega)]
theorem gMv_s (g : Nat → Int64) (a b k : Nat) : vp_updL (gMv g a b k) (b + k) (g (a + k)) = gMv g a b (k + 1) := by
  funext q
  unfold vp_updL gMv
  by_cases h : q = b + k
  · subst h
    rw [if_pos rfl, if_pos (by omega), show b + k - b = k by omega]
  · rw [if_neg h]
    by_cases h2 : b ≤ q ∧ q < b + k
    · rw [if_pos h2, if_pos (by omega)]
    · rw [if_neg h2, if_neg (by omega)]
theorem gMv_r (g : Nat → Int64) (a b k : Nat) (h : a + k < b ∨ b ≤ a) : gMv g a b k (a + k) = g (a + k) := by
  unfold gMv
  rw [if_neg (by omega)]
theorem gMb_0 (g : Nat → Int64) (a b n : Nat) : gMb g a b n 0 = g := by
  funext q
  unfold gMb
  rw [if_neg (by omega)]
theorem gMb_n (g : Nat → Int64) (a b n : Nat) : gMb g a b n n = gMv g a b n := by
  funext q
  unfold gMb gMv
  by_cases h : b ≤ q ∧ q < b + n
  · rw [if_pos (by omega), if_pos h]
  · rw [if_neg (by omega), if_neg h]
theorem gMb_s (g : Nat → Int64) (a b n d : Nat) (hd : d < n) : vp_updL (gMb g a b n d) (b + (n - 1 - d)) (g (a + (n - 1 - d))) = gMb g a b n (d + 1) := by
  funext q
  unfold vp_updL gMb
  by_cases h : q = b + (n - 1 - d)
  · subst h
    rw [if_pos rfl, if_pos (by omega), show b + (n - 1 - d) - b = n - 1 - d by omega]
  · rw [if_neg h]
    by_cases h2 : b + n ≤ q + d ∧ q < b + n
    · rw [if_pos h2, if_pos (by omega)]
    · rw [if_neg h2, if_neg (by omega)]
theorem gMb_r (g : Nat → Int64) (a b n d : Nat) (hd : d < n) (h : a < b) : gMb g a b n d (a + (n - 1 - d)) = g (a + (n - 1 - d)) := by
  unfold gMb
  rw [if_neg (by omega)]
theorem gTrc {z i : Int32} {n : Nat} (hz : z = nI n) (hn : n ≤ 4096) : (0 ≤ i ∧ i ≤ (if z < 20 then z else 20) - 1) ↔ (0 ≤ i ∧ i < z ∧ i < 20) := by
  by_cases h : z < 20
  · rw [if_pos h, gPred hz hn]
    constructor
    · intro q; exact ⟨q.1, q.2, Int32.lt_trans q.2 h⟩
    · intro q; exact ⟨q.1, q.2.1⟩
  · rw [if_neg h, gPred (z := 20) (n := 20) rfl (by decide)]
    constructor
    · intro q; exact ⟨q.1, Int32.lt_of_lt_of_le q.2 (Int32.not_lt.mp h), q.2⟩
    · intro q; exact ⟨q.1, q.2.2⟩
theorem gCmp0 {x y : Int64} : lg_cmp x y = 0 ↔ x = y := by
  unfold lg_cmp
  split
  · rename_i h
    constructor
    · intro q; exact absurd q (by decide)
    · intro q; subst q; exact (Int64.lt_irrefl h).elim
  · split
    · rename_i h h2
      simp_all
    · rename_i h h2
      constructor
      · intro q; exact absurd q (by decide)
      · intro q; exact absurd q (by simpa using h2)
theorem lN_lt9 {a b : Nat} (ha : a < 2 ^ 62) (hb : b < 2 ^ 62) : lN a < lN b ↔ a < b := pk_lLT (by omega) (by omega)
