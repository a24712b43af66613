/-! WORDING, BIRDS, the class's way -/
set_option maxRecDepth 100000 in
theorem gBc_12 : ∀ k : Nat, k < 4096 → (gBc (nI k)).toNatClampNeg ≤ 12 := by decide +kernel
theorem gBc_6 : ∀ k : Nat, k < 64 → (gBc (nI k)).toNatClampNeg ≤ 6 := by decide +kernel
theorem gBc_m {k M : Nat} (h : (gBc (nI k)).toNatClampNeg ≤ M) : ∃ m, m ≤ M ∧ gBc (nI k) = nI m := by
  obtain ⟨j, hj, e⟩ := gBc_n (nI k)
  rw [e, nI_clamp (by omega)] at h
  exact ⟨j, h, e⟩
/-- how many are in the best so far; M when there is none -/
def gFw (M W : Int32) : Int32 := if W = -5 then M else gBc W
theorem gFw_lt {W : Int32} {m M : Nat} (hm : m < M) (hM : M < 100) : nI m < gFw (nI M) W ↔ ¬ (¬ W = -5 ∧ gBc W ≤ nI m) := by
  unfold gFw
  by_cases h : W = -5
  · rw [if_pos h]
    exact ⟨fun _ z => z.1 h, fun _ => (gLt rfl rfl (by omega) (by omega)).mpr hm⟩
  · rw [if_neg h]
    exact ⟨fun q z => absurd q (Int32.not_lt.mpr z.2), fun q => Int32.not_le.mp (fun z => q ⟨h, z⟩)⟩
theorem gFw_k {M : Int32} {k : Nat} (hk : k < 2147483648) : gFw M (nI k) = gBc (nI k) := by
  unfold gFw
  rw [if_neg]
  intro z
  exact absurd (show nI k < 0 from by rw [z]; decide) (nI_pos hk)
theorem gBir_sk {π : gPS} {L : gLf} {n k : Nat} {fa : Int32} (h : ¬ gBir π L n fa k = -5 ∧ gBc (gBir π L n fa k) ≤ gBc (nI k)) : gBir π L n fa (k + 1) = gBir π L n fa k := by
  rw [gBir]
  by_cases c : ¬ nI k &&& (gRdy π L n ^^^ -1) = 0
  · rw [if_pos c]
  · rw [if_neg c, if_pos h]
theorem gOr_n : ∀ n : Nat, n < 6 → ∀ r : Nat, r < 2 ^ n → nI r ||| 1 <<< (nI n &&& 31) = nI (r + 2 ^ n) := by decide +kernel
theorem gRdy_n (π : gPS) (L : gLf) : ∀ n : Nat, n ≤ 6 → ∃ r : Nat, r < 2 ^ n ∧ gRdy π L n = nI r
  | 0, _ => ⟨0, by decide, rfl⟩
  | n + 1, h => by
    obtain ⟨r, hr, e⟩ := gRdy_n π L n (by omega)
    have h2 : 2 ^ (n + 1) = 2 ^ n + 2 ^ n := by rw [Nat.pow_succ]; omega
    rw [gRdy]
    by_cases c : gFly π L n
    · rw [if_pos c, e, gOr_n n (by omega) r hr]
      exact ⟨r + 2 ^ n, by omega, rfl⟩
    · rw [if_neg c, e]
      exact ⟨r, by omega, rfl⟩
theorem gAbv : ∀ n : Nat, n < 7 → ∀ r : Nat, r < 2 ^ n → ∀ k : Nat, k < 64 → 2 ^ n ≤ k → ¬ nI k &&& (nI r ^^^ -1) = 0 := by decide +kernel
/-- sets of pigeons that are not there -/
theorem gBir_64 {π : gPS} {L : gLf} {n : Nat} {fa : Int32} (hn : n ≤ 6) : gBir π L n fa 64 = gBir π L n fa (2 ^ n) := by
  obtain ⟨r, hr, e⟩ := gRdy_n π L n hn
  have hp := gPw_le n (by omega)
  have : ∀ d, 2 ^ n + d ≤ 64 → gBir π L n fa (2 ^ n + d) = gBir π L n fa (2 ^ n) := by
    intro d
    induction d with
    | zero => intro _; rfl
    | succ d ih =>
      intro hd
      rw [show 2 ^ n + (d + 1) = (2 ^ n + d) + 1 by omega, gBir, if_pos (by rw [e]; exact gAbv n (by omega) r hr (2 ^ n + d) (by omega) (by omega)), ih (by omega)]
  have h := this (64 - 2 ^ n) (by omega)
  rw [show 2 ^ n + (64 - 2 ^ n) = 64 by omega] at h
  exact h
theorem gUpd_w {V F : Nat → Int32} {k : Nat} (h : ∀ i, i < k → V i = F i) : ∀ i, i < k + 1 → upd V k (F k) i = F i := by
  intro i hi
  unfold upd
  by_cases z : i = k
  · rw [if_pos z, z]
  · rw [if_neg z]
    exact h i (by omega)
