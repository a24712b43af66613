/-! THE IMAGE, as the reference keeps it in one row -/
def gAgr (S : Nat → Prop) (F E : Nat → Int32) : Prop := ∀ j, S j → F j = E j
theorem gAgr_u {S : Nat → Prop} {F E : Nat → Int32} {i : Nat} {x : Int32} (h : gAgr S F E) (hx : E i = x) : gAgr (fun j => S j ∨ j = i) (upd F i x) E := by
  intro j hj
  unfold upd
  by_cases e : j = i
  · rw [if_pos e, e, hx]
  · rw [if_neg e]
    exact h j (hj.resolve_right e)
theorem gAgr_w {S T : Nat → Prop} {F E : Nat → Int32} (h : gAgr S F E) (ht : ∀ j, T j → S j) : gAgr T F E := fun j hj => h j (ht j hj)
theorem gAt_agr {G : gW} {a n : Nat} {c : ClassId} {f g : Nat → Int32} {H : Heap} (h : gAgr (fun j => j < n) f g) (q : gAt G a (.inl (c, n, .inl f)) H) : gAt G a (.inl (c, n, .inl g)) H := by
  have e : vp_cell c (n, .inl f) = vp_cell c (n, .inl g) := by
    rw [vp_cell_i, vp_cell_i]
    unfold arrV
    congr 1
    apply Array.ext
    · simp
    · intro i h1 h2
      simp at h1
      simp [h i h1]
  show H[a]? = some (vp_cell c (n, .inl g))
  rw [← e]
  exact q
def gEn (π : gPS) (i : Nat) : Int32 := if i < 12 then π 0 i else if i < 24 then π 1 (i - 12) else if i < 30 then π 2 (i - 24) else if i < 36 then π 3 (i - 30) else if i < 42 then π 4 (i - 36) else if i < 48 then π 5 (i - 42) else if i < 54 then π 6 (i - 48) else if i < 78 then π 7 (i - 54) else if i < 83 then π 8 (i - 78) else if i < 88 then π 9 (i - 83) else if i < 93 then π 10 (i - 88) else if i < 103 then π 11 (i - 93) else if i < 113 then π 12 (i - 103) else if i < 121 then π 13 (i - 113) else if i < 129 then π 14 (i - 121) else π 15 (i - 129)
theorem gEn_0 {π : gPS} {k : Nat} (h : k < 12) : gEn π (0 + k) = π 0 k := by
  unfold gEn
  rw [if_pos (by omega), Nat.zero_add]
theorem gEn_1 {π : gPS} {k : Nat} (h : k < 12) : gEn π (12 + k) = π 1 k := by
  unfold gEn
  rw [if_neg (by omega), if_pos (by omega), show 12 + k - 12 = k by omega]
theorem gEn_2 {π : gPS} {k : Nat} (h : k < 6) : gEn π (24 + k) = π 2 k := by
  unfold gEn
  rw [if_neg (by omega), if_neg (by omega), if_pos (by omega), show 24 + k - 24 = k by omega]
theorem gEn_3 {π : gPS} {k : Nat} (h : k < 6) : gEn π (30 + k) = π 3 k := by
  unfold gEn
  rw [if_neg (by omega), if_neg (by omega), if_neg (by omega), if_pos (by omega), show 30 + k - 30 = k by omega]
theorem gEn_4 {π : gPS} {k : Nat} (h : k < 6) : gEn π (36 + k) = π 4 k := by
  unfold gEn
  rw [if_neg (by omega), if_neg (by omega), if_neg (by omega), if_neg (by omega), if_pos (by omega), show 36 + k - 36 = k by omega]
theorem gEn_5 {π : gPS} {k : Nat} (h : k < 6) : gEn π (42 + k) = π 5 k := by
  unfold gEn
  rw [if_neg (by omega), if_neg (by omega), if_neg (by omega), if_neg (by omega), if_neg (by omega), if_pos (by omega), show 42 + k - 42 = k by omega]
theorem gEn_6 {π : gPS} {k : Nat} (h : k < 6) : gEn π (48 + k) = π 6 k := by
  unfold gEn
  rw [if_neg (by omega), if_neg (by omega), if_neg (by omega), if_neg (by omega), if_neg (by omega), if_neg (by omega), if_pos (by omega), show 48 + k - 48 = k by omega]
theorem gEn_7 {π : gPS} {k : Nat} (h : k < 24) : gEn π (54 + k) = π 7 k := by
  unfold gEn
  rw [if_neg (by omega), if_neg (by omega), if_neg (by omega), if_neg (by omega), if_neg (by omega), if_neg (by omega), if_neg (by omega), if_pos (by omega), show 54 + k - 54 = k by omega]
theorem gEn_8 {π : gPS} {k : Nat} (h : k < 5) : gEn π (78 + k) = π 8 k := by
  unfold gEn
  rw [if_neg (by omega), if_neg (by omega), if_neg (by omega), if_neg (by omega), if_neg (by omega), if_neg (by omega), if_neg (by omega), if_neg (by omega), if_pos (by omega), show 78 + k - 78 = k by omega]
theorem gEn_9 {π : gPS} {k : Nat} (h : k < 5) : gEn π (83 + k) = π 9 k := by
  unfold gEn
  rw [if_neg (by omega), if_neg (by omega), if_neg (by omega), if_neg (by omega), if_neg (by omega), if_neg (by omega), if_neg (by omega), if_neg (by omega), if_neg (by omega), if_pos (by omega), show 83 + k - 83 = k by omega]
theorem gEn_10 {π : gPS} {k : Nat} (h : k < 5) : gEn π (88 + k) = π 10 k := by
  unfold gEn
  rw [if_neg (by omega), if_neg (by omega), if_neg (by omega), if_neg (by omega), if_neg (by omega), if_neg (by omega), if_neg (by omega), if_neg (by omega), if_neg (by omega), if_neg (by omega), if_pos (by omega), show 88 + k - 88 = k by omega]
theorem gEn_11 {π : gPS} {k : Nat} (h : k < 10) : gEn π (93 + k) = π 11 k := by
  unfold gEn
  rw [if_neg (by omega), if_neg (by omega), if_neg (by omega), if_neg (by omega), if_neg (by omega), if_neg (by omega), if_neg (by omega), if_neg (by omega), if_neg (by omega), if_neg (by omega), if_neg (by omega), if_pos (by omega), show 93 + k - 93 = k by omega]
theorem gEn_12 {π : gPS} {k : Nat} (h : k < 10) : gEn π (103 + k) = π 12 k := by
  unfold gEn
  rw [if_neg (by omega), if_neg (by omega), if_neg (by omega), if_neg (by omega), if_neg (by omega), if_neg (by omega), if_neg (by omega), if_neg (by omega), if_neg (by omega), if_neg (by omega), if_neg (by omega), if_neg (by omega), if_pos (by omega), show 103 + k - 103 = k by omega]
theorem gEn_13 {π : gPS} {k : Nat} (h : k < 8) : gEn π (113 + k) = π 13 k := by
  unfold gEn
  rw [if_neg (by omega), if_neg (by omega), if_neg (by omega), if_neg (by omega), if_neg (by omega), if_neg (by omega), if_neg (by omega), if_neg (by omega), if_neg (by omega), if_neg (by omega), if_neg (by omega), if_neg (by omega), if_neg (by omega), if_pos (by omega), show 113 + k - 113 = k by omega]
theorem gEn_14 {π : gPS} {k : Nat} (h : k < 8) : gEn π (121 + k) = π 14 k := by
  unfold gEn
  rw [if_neg (by omega), if_neg (by omega), if_neg (by omega), if_neg (by omega), if_neg (by omega), if_neg (by omega), if_neg (by omega), if_neg (by omega), if_neg (by omega), if_neg (by omega), if_neg (by omega), if_neg (by omega), if_neg (by omega), if_neg (by omega), if_pos (by omega), show 121 + k - 121 = k by omega]
theorem gEn_s0 {π : gPS} : gEn π 129 = π 15 0 := rfl
theorem gEn_s1 {π : gPS} : gEn π 130 = π 15 1 := rfl
theorem gEn_s2 {π : gPS} : gEn π 131 = π 15 2 := rfl
theorem gEn_s3 {π : gPS} : gEn π 132 = π 15 3 := rfl
theorem gEn_s4 {π : gPS} : gEn π 133 = π 15 4 := rfl
theorem gEn_s5 {π : gPS} : gEn π 134 = π 15 5 := rfl
theorem gEn_s6 {π : gPS} : gEn π 135 = π 15 6 := rfl
/-- the reference's cells, whatever its stack and its row ahead hold -/
def gMA (G : gW) (b : Nat) (π μ f : gPS) (g : Nat → Int64) (H : Heap) : Prop := ∃ sA : Nat → Int32, gM7 G b π μ (gR f 10 sA) g H
theorem gEn_z {π : gPS} {k : Nat} (h : k < 12) : gEn π k = π 0 k := by
  unfold gEn
  rw [if_pos h]
