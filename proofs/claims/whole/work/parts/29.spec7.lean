/-! OF, TOLD, PASS, ON, ENDS, SHIFT, in our words -/
def gqPass (π : gPS) (L : gLf) (n : Nat) (m : Int32) : Int32 × gPS := if 0 ≤ m ∧ m ≤ 60 then (if π 15 2 + m ≤ 9999 then ((gPa π L n m.toNatClampNeg) 15 2, gPa π L n m.toNatClampNeg) else (-3, π)) else (-2, π)
def gqOf (π : gPS) (L : gLf) (p what : Int32) : Int32 := if 0 ≤ p ∧ p < π 15 0 then (if what = 0 then π 2 p.toNatClampNeg else if what = 1 then π 3 p.toNatClampNeg else if what = 2 then π 4 p.toNatClampNeg else if what = 3 then π 5 p.toNatClampNeg else if what = 4 then π 6 p.toNatClampNeg else if what = 5 then gB (gFly π L p.toNatClampNeg) else if what = 6 then (gSpa π L p.toNatClampNeg 12).1 else -1) else -1
def gqTold (π : gPS) (L : gLf) (n sn : Nat) (what : Int32) : Int32 := if 0 ≤ what - 10 ∧ what - 10 ≤ 11 then π 0 (what - 10).toNatClampNeg else if 0 ≤ what - 30 ∧ what - 30 ≤ 11 then π 1 (what - 30).toNatClampNeg else if 50 ≤ what ∧ what ≤ 57 then gCom π L n (what - 50).toNatClampNeg 61 else if 0 ≤ what - 60 ∧ what - 60 ≤ 11 then gChs π L (what - 60).toNatClampNeg sn 10 else if what = 0 then π 15 2 else if what = 1 then gRs L L.1 else if what = 2 then π 15 1 else if what = 3 then gRdy π L n else -1
def gqOn (π : gPS) (L : gLf) (n : Nat) (m what : Int32) : Int32 := if ¬ what = 0 ∧ ¬ (0 ≤ what - 10 ∧ what - 10 < π 15 0) ∧ ¬ (0 ≤ what - 20 ∧ what - 20 < π 15 0) then -1 else if 0 ≤ m ∧ m ≤ 60 then (if what = 0 then (gDs π L n m.toNatClampNeg) 15 1 else if what < 20 then (gDs π L n m.toNatClampNeg) 5 (what - 10).toNatClampNeg else (gDs π L n m.toNatClampNeg) 4 (what - 20).toNatClampNeg) else -2
def gqEnds (π : gPS) (L : gLf) (n pn : Nat) (what : Int32) : Int32 := if 0 ≤ what ∧ what ≤ 1 then (if what = 0 then (gPl π L n pn) 15 1 else gFlown ((gPl π L n pn) 6) n) else -1
def gqShift (μ : gPS) (g : Nat → Int64) (t i o j n : Int32) : Int32 × (Nat → Int64) := if 0 ≤ t ∧ t ≤ 5 then (if 0 ≤ o ∧ o ≤ 5 then (if μ 2 t.toNatClampNeg < 0 then (-11, g) else if 0 ≤ μ 2 o.toNatClampNeg then (if μ 2 t.toNatClampNeg = μ 2 o.toNatClampNeg then (if n < 0 then (-13, g) else if i < 0 then (-13, g) else if j < 0 then (-13, g) else if (μ 3 t.toNatClampNeg).toNatClampNeg < i.toNatClampNeg + n.toNatClampNeg then (-13, g) else if (μ 3 o.toNatClampNeg).toNatClampNeg < j.toNatClampNeg + n.toNatClampNeg then (-13, g) else (n, gMv g (60 * t.toNatClampNeg + i.toNatClampNeg) (60 * o.toNatClampNeg + j.toNatClampNeg) n.toNatClampNeg)) else (-12, g)) else (-11, g)) else (-1, g)) else (-1, g)
theorem gSb {d x : Nat} (h : x + 1 ≤ d) : nI d - 1 - nI x = nI (d - 1 - x) := gSub (gSub rfl rfl (by omega)) rfl (by omega)
theorem gSb_s {d x : Nat} (h : x + 1 ≤ d) : nI (d - 1 - x) + -1 = nI d - 1 - nI (x + 1) := by
  rw [← gSb h, ← nI_add]
  have e : nI 1 = 1 := rfl
  rw [e]
  simp only [Int32.sub_eq_add_neg, Int32.neg_add, Int32.add_assoc]
theorem gSb_e (d : Nat) : nI d - 1 - nI d = -1 := by
  simp only [Int32.sub_eq_add_neg]
  rw [Int32.add_assoc, Int32.add_comm (-1), ← Int32.add_assoc, Int32.add_right_neg, Int32.zero_add]
theorem gI50 {x : Int32} (h : 50 ≤ x ∧ x ≤ 57) : ∃ k : Nat, k ≤ 7 ∧ x - 50 = nI k := by
  obtain ⟨k, hk, rfl⟩ := gIw (M := 57) (n := 57) rfl (by decide) ⟨Int32.le_trans (by decide) h.1, h.2⟩
  have h50 : 50 ≤ k := (gLe (a := 50) (b := k) rfl rfl (by omega) (by omega)).mp h.1
  exact ⟨k - 50, by omega, gSub rfl rfl h50⟩
theorem gBk10 {z x : Int32} {n : Nat} (hz : z = nI n) (hn : n ≤ 6) (h : 0 ≤ x - 10 ∧ x - 10 < z) : ∃ q : Nat, q < n ∧ x = nI (q + 10) := by
  obtain ⟨q, hq, e⟩ := gIx hz (by omega) h
  exact ⟨q, hq, by rw [← nI_add, ← e]; exact (Int32.sub_add_cancel x 10).symm⟩
theorem gBk20 {z x : Int32} {n : Nat} (hz : z = nI n) (hn : n ≤ 6) (h : 0 ≤ x - 20 ∧ x - 20 < z) : ∃ q : Nat, q < n ∧ x = nI (q + 20) := by
  obtain ⟨q, hq, e⟩ := gIx hz (by omega) h
  exact ⟨q, hq, by rw [← nI_add, ← e]; exact (Int32.sub_add_cancel x 20).symm⟩
