/-! more of the calls, pure parts -/
theorem g12 {w : Int32} : (1 ≤ w ∧ w ≤ 2) ↔ (w = 1 ∨ w = 2) := by
  constructor
  · intro h
    obtain ⟨k, hk, rfl⟩ := gIw (M := 2) (n := 2) rfl (by decide) ⟨Int32.le_trans (by decide) h.1, h.2⟩
    have h1 : 1 ≤ k := (gLe (x := 1) (a := 1) (b := k) rfl rfl (by omega) (by omega)).mp h.1
    have : k = 1 ∨ k = 2 := by omega
    rcases this with rfl | rfl
    · exact Or.inl rfl
    · exact Or.inr rfl
  · intro h
    rcases h with rfl | rfl <;> decide
theorem gRho_w {π ρ ρ9 : gPS} {sn pn bn : Nat} (h : gRho π ρ) (hw : gRw ρ9 ρ sn pn bn) (hz3 : π 15 3 = nI sn) (hsn : sn ≤ 5) (hz4 : π 15 4 = nI pn) (hpn : pn ≤ 10) (hz5 : π 15 5 = nI bn) (hbn : bn ≤ 8) : gRho π ρ9 := by
  refine ⟨fun k hk => ?_, fun k hk => ?_, fun k hk => ?_⟩
  · have hk2 : k < sn := by rw [hz3, nI_clamp (by omega)] at hk; exact hk
    obtain ⟨a, b, c⟩ := h.1 k hk
    obtain ⟨a2, b2, c2⟩ := hw.1 k hk2
    exact ⟨a2.trans a, b2.trans b, c2.trans c⟩
  · have hk2 : k < pn := by rw [hz4, nI_clamp (by omega)] at hk; exact hk
    obtain ⟨a, b⟩ := h.2.1 k hk
    obtain ⟨a2, b2, -⟩ := hw.2.1 k hk2
    exact ⟨a2.trans a, fun q => b2.trans (b q)⟩
  · have hk2 : k < bn := by rw [hz5, nI_clamp (by omega)] at hk; exact hk
    obtain ⟨a, b⟩ := h.2.2 k hk
    obtain ⟨a2, b2, -⟩ := hw.2.2 k hk2
    exact ⟨a2.trans a, b2.trans b⟩
/-- the whole object without the loft in force -/
def gCN (G : gW) (B lp : Nat) (π : gPS) (lk : Nat) (πk μ α : gPS) (g : Nat → Int64) (H : Heap) : Prop := ∃ ρ : gPS, gRho π ρ ∧ gSg G B (gLO G B μ) H ∧ gSg G (B + 1) (gLS G (B + 1) π lp ρ) H ∧ gSg G (B + 1 + 28) (gKk G (B + 1 + 28)) H ∧ (∃ (πt : gPS) (lt : Nat) (ρt : gPS), gSg G (B + 36) (gLS G (B + 36) πt lt ρt) H) ∧ gSg G (B + 36 + 28) (gKk G (B + 36 + 28)) H ∧ (∃ ρk : gPS, gRho πk ρk ∧ gSg G (B + 71) (gLS G (B + 71) πk lk ρk) H) ∧ gSg G (B + 106) (gLB2 G (B + 106) μ) H ∧ gSg G (B + 107) (gLF G (B + 107)) H ∧ (∃ γ : gPS, gSg G (B + 108) (gLN G (B + 108) γ) H) ∧ gSg G (B + 109) (gLA G (B + 109) α) H ∧ gSg G (B + 111) (gLT G (B + 111) μ) H ∧ gRows G (B + 114) g H
theorem gCW_v {G : gW} {B lp : Nat} {π : gPS} {lk : Nat} {πk f μ α : gPS} {g : Nat → Int64} {H : Heap} : gCW G B lp π lk πk f μ α g H ↔ gC4 G lp f H ∧ gCN G B lp π lk πk μ α g H := by
  constructor
  · rintro ⟨ρ, hrr, zO, h1, hk7, h2, zT, zKT, zE, zB, zF, zN, zA, zP, zG⟩
    exact ⟨h2, ρ, hrr, zO, h1, hk7, zT, zKT, zE, zB, zF, zN, zA, zP, zG⟩
  · rintro ⟨h2, ρ, hrr, zO, h1, hk7, zT, zKT, zE, zB, zF, zN, zA, zP, zG⟩
    exact ⟨ρ, hrr, zO, h1, hk7, h2, zT, zKT, zE, zB, zF, zN, zA, zP, zG⟩
