/-! JOY AND DAYS, the class's way -/
/-- the kinds of a State -/
abbrev gKk (_ : gW) (_ : Nat) : List va_E := gKs
/-- JOY by the kind, of the sum S -/
def gJk (π : gPS) (k : Nat) (ws S : Int32) : Int32 := if π 2 k = 1 then S + π 3 k else if π 2 k = 2 then S / 2 else if π 2 k = 3 then S - gGrim (π 0) ws else if π 2 k = 4 then S + π 3 k - 2 * π 5 k else if π 2 k = 5 then S / 2 + gBc (π 15 1) else if π 2 k = 6 then S - gGrim (π 0) ws + π 7 (4 * k + (gBc ws).toNatClampNeg % 4) else S
theorem gJoy_k (π : gPS) (L : gLf) (k : Nat) (ws : Int32) : gJoy π L k ws = gJk π k ws (gSum π L k ws) := rfl
theorem gSum_c (π : gPS) (L : gLf) (k : Nat) (ws : Int32) : gSw (π 0) ws (gGs L (gNu π k (gBc ws)) 0 L.1 - π 5 k) 12 = gSum π L k ws := by
  unfold gSum
  rw [gGs_0 L _ (gSw (π 0) ws (-(π 5 k)) 12)]
  generalize gGs L (gNu π k (gBc ws)) 0 L.1 = X
  rw [gSw_0 (π 0) ws (-(π 5 k)), gSw_0 (π 0) ws (X - π 5 k), Int32.sub_eq_add_neg, Int32.add_comm (-(π 5 k) + gSw (π 0) ws 0 12) X, ← Int32.add_assoc]
/-- the least CHEER, begun with a -/
def gLsA (ch : Nat → Int32) (ws a : Int32) : Nat → Int32
  | 0 => a
  | k + 1 => if ws >>> (nI k &&& 31) &&& 1 = 0 then gLsA ch ws a k else (if ch k < gLsA ch ws a k then ch k else gLsA ch ws a k)
theorem gLsA_9 (ch : Nat → Int32) (ws : Int32) : ∀ k : Nat, gLsA ch ws 9 k = gLst ch ws k
  | 0 => rfl
  | k + 1 => by rw [gLsA, gLst, gLsA_9 ch ws k]
theorem gBit0 : ∀ k : Nat, k < 12 → (0 : Int32) >>> (nI k &&& 31) &&& 1 = 0 := by decide
theorem gLsA_0 (ch : Nat → Int32) : ∀ k : Nat, k ≤ 12 → gLsA ch 0 0 k = 0
  | 0, _ => rfl
  | k + 1, h => by rw [gLsA, if_pos (gBit0 k (by omega)), gLsA_0 ch k (by omega)]
theorem gGrm_0 {ch : Nat → Int32} {ws : Int32} (h : ws = 0) : gLsA ch ws 0 12 = gGrim ch ws := by
  subst h
  rw [gLsA_0 ch 12 (Nat.le_refl _), gGrim, if_pos rfl]
theorem gGrm_9 {ch : Nat → Int32} {ws : Int32} (h : ¬ ws = 0) : gLsA ch ws 9 12 = gGrim ch ws := by
  rw [gLsA_9, gGrim, if_neg h]
/-- rows of a State by hand are as another's, as far as they count -/
def gRw (ρ ρ' : gPS) (zs zp zb : Nat) : Prop := (∀ j, j < zs → ρ 0 j = ρ' 0 j ∧ ρ 1 j = ρ' 1 j ∧ ρ 2 j = ρ' 2 j) ∧ (∀ j, j < zp → ρ 3 j = ρ' 3 j ∧ ρ 4 j = ρ' 4 j ∧ ρ 5 j = ρ' 5 j) ∧ (∀ j, j < zb → ρ 6 j = ρ' 6 j ∧ ρ 7 j = ρ' 7 j ∧ ρ 8 j = ρ' 8 j)
theorem gKd7 {k : Nat} (h : k < 7) : k = 0 ∨ k = 1 ∨ k = 2 ∨ k = 3 ∨ k = 4 ∨ k = 5 ∨ k = 6 := by omega
theorem gBc4 (ws : Int32) : gBc ws - gBc ws / 4 * 4 = nI ((gBc ws).toNatClampNeg % 4) := by
  obtain ⟨j, hj, e⟩ := gBc_n ws
  rw [e, nI_clamp (by omega)]
  exact gRem (y := 4) (b := 4) rfl rfl (by omega) (by omega) (by omega)
