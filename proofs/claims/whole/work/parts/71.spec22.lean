/-! THE CALLS OF THE CLASS, pure parts -/
theorem gZr_id {π : gPS} {n : Nat} (h : ∀ j, j < 4 → π 7 (4 * n + j) = 0) : ∀ j : Nat, j ≤ 4 → gZr π n j = π
  | 0, _ => rfl
  | j + 1, hj => by rw [gZr, gZr_id h j (by omega), gU_id (h j (by omega))]
theorem gqPigeon_c {π : gPS} {kd v : Int32} {n : Nat} (hz : π 15 0 = nI n) (hn : n < 6) (h0 : π 4 n = 0 ∧ π 5 n = 0 ∧ π 6 n = 0 ∧ ∀ j, j < 4 → π 7 (4 * n + j) = 0) (h1 : 0 ≤ kd ∧ kd ≤ 6) (h2 : 0 ≤ v ∧ v ≤ 9) : gqPigeon π kd v = (nI n, gU (gU (gU π 2 n kd) 3 n v) 15 0 (nI (n + 1))) := by
  have h6 : ¬ π 15 0 = 6 := fun z => absurd ((gEq (b := 6) hz rfl (by omega) (by omega)).mp z) (by omega)
  have hc : (π 15 0).toNatClampNeg = n := by rw [hz, nI_clamp (by omega)]
  unfold gqPigeon
  rw [if_pos h1, if_pos h2, if_neg h6, hc]
  generalize hX : gU (gU π 2 n kd) 3 n v = X
  have e4 : X 4 = π 4 := by rw [← hX, gU_ne (by decide), gU_ne (by decide)]
  have e5 : X 5 = π 5 := by rw [← hX, gU_ne (by decide), gU_ne (by decide)]
  have e6 : X 6 = π 6 := by rw [← hX, gU_ne (by decide), gU_ne (by decide)]
  have e7 : X 7 = π 7 := by rw [← hX, gU_ne (by decide), gU_ne (by decide)]
  rw [gU_id (π := X) (by rw [e4]; exact h0.1), gU_id (π := X) (by rw [e5]; exact h0.2.1), gU_id (π := X) (by rw [e6]; exact h0.2.2.1), gZr_id (π := X) (fun j hj => by rw [e7]; exact h0.2.2.2 j hj) 4 (by omega), hz, show (nI n + 1 : Int32) = nI (n + 1) from gAdd rfl rfl]
theorem gNb : ∀ k : Nat, k < 128 → vp_nar .byte ((nI k).toInt8.toInt32) = nI k := by decide +kernel
theorem gRho_3 {π ρ : gPS} {sn : Nat} (h : gRho π ρ) (hz : π 15 3 = nI sn) (hs : sn ≤ 5) : ∀ k, k < sn → ρ 0 k = π 8 k ∧ ρ 1 k = π 9 k ∧ ρ 2 k = π 10 k := fun k hk => h.1 k (by rw [hz, nI_clamp (by omega)]; exact hk)
theorem gRho_4 {π ρ : gPS} {pn : Nat} (h : gRho π ρ) (hz : π 15 4 = nI pn) (hs : pn ≤ 10) : ∀ k, k < pn → ρ 3 k = π 11 k ∧ (¬ π 11 k = 0 → ρ 4 k = π 12 k) := fun k hk => h.2.1 k (by rw [hz, nI_clamp (by omega)]; exact hk)
theorem gRho_5 {π ρ : gPS} {bn : Nat} (h : gRho π ρ) (hz : π 15 5 = nI bn) (hs : bn ≤ 8) : ∀ k, k < bn → ρ 6 k = π 13 k ∧ ρ 7 k = π 14 k := fun k hk => h.2.2 k (by rw [hz, nI_clamp (by omega)]; exact hk)
/-- a row of SEEN more -/
theorem gRho_s {π ρ : gPS} {sn : Nat} {p w u : Int32} (h : gRho π ρ) (hz : π 15 3 = nI sn) (hs : sn < 5) : gRho (gU (gU (gU (gU π 8 sn p) 9 sn w) 15 3 (nI (sn + 1))) 10 sn u) (gU (gU (gU ρ 0 sn p) 1 sn w) 2 sn u) := by
  refine ⟨fun k hk => ?_, fun k hk => h.2.1 k hk, fun k hk => h.2.2 k hk⟩
  have hk2 : k < sn + 1 := by
    have e : (gU (gU (gU (gU π 8 sn p) 9 sn w) 15 3 (nI (sn + 1))) 10 sn u) 15 3 = nI (sn + 1) := by rw [gU_ne (by decide), gU_e]
    rw [e, nI_clamp (by omega)] at hk
    exact hk
  rw [gU_ne (show 0 ≠ 2 by decide), gU_ne (show 0 ≠ 1 by decide), gU_ne (show 8 ≠ 10 by decide), gU_ne (show 8 ≠ 15 by decide), gU_ne (show 8 ≠ 9 by decide), gU_ne (show 1 ≠ 2 by decide), gU_ne (show 9 ≠ 10 by decide), gU_ne (show 9 ≠ 15 by decide)]
  by_cases z : k = sn
  · subst z
    exact ⟨by rw [gU_e, gU_e], by rw [gU_e, gU_e], by rw [gU_e, gU_e]⟩
  · obtain ⟨a, b, c⟩ := gRho_3 h hz (by omega) k (by omega)
    exact ⟨by rw [gU_o z, gU_o z]; exact a, by rw [gU_o z, gU_o z, gU_ne (by decide), gU_ne (by decide)]; exact b, by rw [gU_o z, gU_o z, gU_ne (by decide), gU_ne (by decide), gU_ne (by decide)]; exact c⟩
theorem gRho_p {π ρ : gPS} {pn : Nat} {p w u : Int32} (h : gRho π ρ) (hz : π 15 4 = nI pn) (hs : pn < 10) : gRho (gU (gU (gU π 11 pn p) 15 4 (nI (pn + 1))) 12 pn (if p = 0 then 0 else w)) (gU (gU (gU ρ 3 pn p) 4 pn w) 5 pn u) := by
  refine ⟨fun k hk => h.1 k hk, fun k hk => ?_, fun k hk => h.2.2 k hk⟩
  have hk2 : k < pn + 1 := by
    have e : (gU (gU (gU π 11 pn p) 15 4 (nI (pn + 1))) 12 pn (if p = 0 then 0 else w)) 15 4 = nI (pn + 1) := by rw [gU_ne (by decide), gU_e]
    rw [e, nI_clamp (by omega)] at hk
    exact hk
  rw [gU_ne (show 3 ≠ 5 by decide), gU_ne (show 3 ≠ 4 by decide), gU_ne (show 11 ≠ 12 by decide), gU_ne (show 11 ≠ 15 by decide), gU_ne (show 4 ≠ 5 by decide)]
  by_cases z : k = pn
  · subst z
    exact ⟨by rw [gU_e, gU_e], fun q => by rw [gU_e] at q; rw [gU_e, gU_e, if_neg q]⟩
  · obtain ⟨a, b⟩ := gRho_4 h hz (by omega) k (by omega)
    exact ⟨by rw [gU_o z, gU_o z]; exact a, fun q => by rw [gU_o z] at q; rw [gU_o z, gU_o z, gU_ne (by decide), gU_ne (by decide), gU_ne (by decide)]; exact b q⟩
theorem gRho_b {π ρ : gPS} {bn : Nat} {p w u : Int32} (h : gRho π ρ) (hz : π 15 5 = nI bn) (hs : bn < 8) : gRho (gU (gU (gU π 13 bn p) 15 5 (nI (bn + 1))) 14 bn w) (gU (gU (gU ρ 6 bn p) 7 bn w) 8 bn u) := by
  refine ⟨fun k hk => h.1 k hk, fun k hk => h.2.1 k hk, fun k hk => ?_⟩
  have hk2 : k < bn + 1 := by
    have e : (gU (gU (gU π 13 bn p) 15 5 (nI (bn + 1))) 14 bn w) 15 5 = nI (bn + 1) := by rw [gU_ne (by decide), gU_e]
    rw [e, nI_clamp (by omega)] at hk
    exact hk
  rw [gU_ne (show 6 ≠ 8 by decide), gU_ne (show 6 ≠ 7 by decide), gU_ne (show 13 ≠ 14 by decide), gU_ne (show 13 ≠ 15 by decide), gU_ne (show 7 ≠ 8 by decide)]
  by_cases z : k = bn
  · subst z
    exact ⟨by rw [gU_e, gU_e], by rw [gU_e, gU_e]⟩
  · obtain ⟨a, b⟩ := gRho_5 h hz (by omega) k (by omega)
    exact ⟨by rw [gU_o z, gU_o z]; exact a, by rw [gU_o z, gU_o z, gU_ne (by decide), gU_ne (by decide)]; exact b⟩
/-- a table emptied -/
theorem gRho_e {π ρ : gPS} {j : Nat} (hj : j = 3 ∨ j = 4 ∨ j = 5) (h : gRho π ρ) : gRho (gU π 15 j 0) ρ := by
  have hn : ∀ k : Nat, ¬ k < ((gU π 15 j 0) 15 j).toNatClampNeg := fun k q => by
    rw [gU_e] at q
    exact absurd q (by simp)
  have e : ∀ i : Nat, i ≠ j → (gU π 15 j 0) 15 i = π 15 i := fun i hi => gU_o hi
  refine ⟨fun k hk => ?_, fun k hk => ?_, fun k hk => ?_⟩
  · by_cases z : 3 = j
    · subst z; exact absurd hk (hn k)
    · rw [e 3 z] at hk; exact h.1 k hk
  · by_cases z : 4 = j
    · subst z; exact absurd hk (hn k)
    · rw [e 4 z] at hk; exact h.2.1 k hk
  · by_cases z : 5 = j
    · subst z; exact absurd hk (hn k)
    · rw [e 5 z] at hk; exact h.2.2 k hk
