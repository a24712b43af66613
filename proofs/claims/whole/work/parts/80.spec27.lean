/-! ACTS of the class's pigeons -/
def gAst (α : gPS) (i v : Int32) : gPS := gU (gU (gU α 1 0 0) 1 1 i) 1 2 v
def gqActA (π α : gPS) (p a x : Int32) : gPS := if 0 ≤ p ∧ p < π 15 0 then (if 0 ≤ a ∧ a ≤ 2 then gTbs (gAst α (nI p.toNatClampNeg) (π 3 p.toNatClampNeg)) (gAct π p.toNatClampNeg a x).2 else gAst α 0 0) else gAst α 0 0
theorem gAst_0 {α : gPS} {i v : Int32} : (gAst α i v) 1 0 = nI 0 := by
  unfold gAst
  rw [gU_o (by decide), gU_o (by decide), gU_e]
  rfl
theorem gAst_1 {α : gPS} {i v : Int32} : (gAst α i v) 1 1 = i := by
  unfold gAst
  rw [gU_o (by decide), gU_e]
theorem gAst_2 {α : gPS} {i v : Int32} : (gAst α i v) 1 2 = v := by
  unfold gAst
  rw [gU_e]
