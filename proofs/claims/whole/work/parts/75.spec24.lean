/-! TOLD, ON, ENDS, PASS, the class's way -/
theorem gRg {x : Int32} {a b : Nat} (hb : a + b < 2147483648) : (0 ≤ x - nI a ∧ x - nI a ≤ nI b) ↔ ((a : Int) ≤ x.toInt ∧ x.toInt ≤ ((a + b : Nat) : Int)) := by
  constructor
  · intro h
    obtain ⟨k, hk, e⟩ := gIw (M := nI b) (n := b) rfl (by omega) h
    have ex : x = nI (k + a) := by rw [← nI_add, ← e]; exact (Int32.sub_add_cancel x (nI a)).symm
    rw [ex, nI_toInt (by omega)]
    omega
  · intro h
    obtain ⟨j, hj⟩ : ∃ j : Nat, x.toInt = (j : Int) := ⟨x.toInt.toNat, by omega⟩
    have ex : x = nI j := Int32.toInt_inj.mp (by rw [hj, nI_toInt (by omega)])
    have e2 : x - nI a = nI (j - a) := gSub ex rfl (by omega)
    rw [e2]
    exact ⟨(gLe (x := 0) (a := 0) rfl rfl (by omega) (by omega)).mpr (by omega), (gLe rfl rfl (by omega) (by omega)).mpr (by omega)⟩
theorem gLtI {x : Int32} {a : Nat} (ha : a < 2147483648) : x < nI a ↔ x.toInt < (a : Int) := by rw [Int32.lt_iff_toInt_lt, nI_toInt ha]
theorem gLeI {x : Int32} {a : Nat} (ha : a < 2147483648) : x ≤ nI a ↔ x.toInt ≤ (a : Int) := by rw [Int32.le_iff_toInt_le, nI_toInt ha]
theorem gGeI {x : Int32} {a : Nat} (ha : a < 2147483648) : nI a ≤ x ↔ (a : Int) ≤ x.toInt := by rw [Int32.le_iff_toInt_le, nI_toInt ha]
theorem gEqI {x : Int32} {a : Nat} (ha : a < 2147483648) : x = nI a ↔ x.toInt = (a : Int) := by rw [← Int32.toInt_inj, nI_toInt ha]
/-- what TOLD answers, asked as the class asks -/
def gToldC (π : gPS) (L : gLf) (n sn : Nat) (wh : Int32) : Int32 := if wh < 60 then (if wh < 50 then (if wh < 30 then (if wh < 10 then (if wh = 0 then π 15 2 else if wh = 1 then gRs L L.1 else if wh = 2 then π 15 1 else if wh = 3 then gRdy π L n else -1) else if 0 ≤ wh - 10 ∧ wh - 10 ≤ 11 then π 0 (wh - 10).toNatClampNeg else -1) else if 0 ≤ wh - 30 ∧ wh - 30 ≤ 11 then π 1 (wh - 30).toNatClampNeg else -1) else if wh - 50 < 8 then gCom π L n (wh - 50).toNatClampNeg 61 else -1) else if 0 ≤ wh - 60 ∧ wh - 60 ≤ 11 then gChs π L (wh - 60).toNatClampNeg sn 10 else -1
theorem gW50 {x : Int32} (h1 : ¬ x < 50) (h2 : x < 60) : ∃ k : Nat, k < 10 ∧ x - 50 = nI k ∧ x = nI (k + 50) := by
  have a : (50 : Int) ≤ x.toInt := (gGeI (a := 50) (by omega)).mp (Int32.not_lt.mp h1)
  have b : x.toInt < (60 : Int) := (gLtI (a := 60) (by omega)).mp h2
  obtain ⟨j, hj⟩ : ∃ j : Nat, x.toInt = (j : Int) := ⟨x.toInt.toNat, by omega⟩
  have ex : x = nI j := Int32.toInt_inj.mp (by rw [hj, nI_toInt (by omega)])
  exact ⟨j - 50, by omega, gSub ex rfl (by omega), by rw [ex, show j - 50 + 50 = j by omega]⟩
theorem gToldC_e (π : gPS) (L : gLf) (n sn : Nat) (wh : Int32) : gqTold π L n sn wh = gToldC π L n sn wh := by
  have r10 : (0 ≤ wh - 10 ∧ wh - 10 ≤ 11) ↔ _ := gRg (x := wh) (a := 10) (b := 11) (by omega)
  have r30 : (0 ≤ wh - 30 ∧ wh - 30 ≤ 11) ↔ _ := gRg (x := wh) (a := 30) (b := 11) (by omega)
  have r60 : (0 ≤ wh - 60 ∧ wh - 60 ≤ 11) ↔ _ := gRg (x := wh) (a := 60) (b := 11) (by omega)
  have r57 : wh ≤ 57 ↔ _ := gLeI (x := wh) (a := 57) (by omega)
  have r50 : (50 : Int32) ≤ wh ↔ _ := gGeI (x := wh) (a := 50) (by omega)
  have l10 : wh < 10 ↔ _ := gLtI (x := wh) (a := 10) (by omega)
  have l30 : wh < 30 ↔ _ := gLtI (x := wh) (a := 30) (by omega)
  have l50 : wh < 50 ↔ _ := gLtI (x := wh) (a := 50) (by omega)
  have l60 : wh < 60 ↔ _ := gLtI (x := wh) (a := 60) (by omega)
  have e0 : wh = 0 ↔ _ := gEqI (x := wh) (a := 0) (by omega)
  have e1 : wh = 1 ↔ _ := gEqI (x := wh) (a := 1) (by omega)
  have e2 : wh = 2 ↔ _ := gEqI (x := wh) (a := 2) (by omega)
  have e3 : wh = 3 ↔ _ := gEqI (x := wh) (a := 3) (by omega)
  have l8 : ¬ wh < 50 → wh < 60 → (wh - 50 < 8 ↔ wh.toInt < (58 : Int)) := fun h1 h2 => by
    obtain ⟨k, hk, e, ex⟩ := gW50 h1 h2
    rw [e, ex, nI_toInt (by omega)]
    constructor
    · intro q
      have := (gLt (y := 8) (b := 8) rfl rfl (by omega) (by omega)).mp q
      omega
    · intro q
      exact (gLt (y := 8) (b := 8) rfl rfl (by omega) (by omega)).mpr (by omega)
  unfold gqTold gToldC
  by_cases h60 : wh < 60
  · rw [if_pos h60]
    by_cases h50 : wh < 50
    · rw [if_pos h50]
      have a50 := l50.mp h50
      have n57 : ¬ (50 ≤ wh ∧ wh ≤ 57) := fun z => by have := r50.mp z.1; omega
      have n60 : ¬ (0 ≤ wh - 60 ∧ wh - 60 ≤ 11) := fun z => by have := r60.mp z; omega
      by_cases h30 : wh < 30
      · rw [if_pos h30]
        have a30 := l30.mp h30
        have n30 : ¬ (0 ≤ wh - 30 ∧ wh - 30 ≤ 11) := fun z => by have := r30.mp z; omega
        by_cases h10 : wh < 10
        · rw [if_pos h10]
          have a10 := l10.mp h10
          have n10 : ¬ (0 ≤ wh - 10 ∧ wh - 10 ≤ 11) := fun z => by have := r10.mp z; omega
          rw [if_neg n10, if_neg n30, if_neg n57, if_neg n60]
        · rw [if_neg h10]
          by_cases hc : 0 ≤ wh - 10 ∧ wh - 10 ≤ 11
          · rw [if_pos hc, if_pos hc]
          · have a10 : ¬ _ := fun z => h10 (l10.mpr z)
            rw [if_neg hc, if_neg hc, if_neg n30, if_neg n57, if_neg n60, if_neg (fun z => by have := e0.mp z; omega), if_neg (fun z => by have := e1.mp z; omega), if_neg (fun z => by have := e2.mp z; omega), if_neg (fun z => by have := e3.mp z; omega)]
      · rw [if_neg h30]
        have a30 : ¬ _ := fun z => h30 (l30.mpr z)
        have n10 : ¬ (0 ≤ wh - 10 ∧ wh - 10 ≤ 11) := fun z => by have := r10.mp z; omega
        rw [if_neg n10]
        by_cases hc : 0 ≤ wh - 30 ∧ wh - 30 ≤ 11
        · rw [if_pos hc, if_pos hc]
        · rw [if_neg hc, if_neg hc, if_neg n57, if_neg n60, if_neg (fun z => by have := e0.mp z; omega), if_neg (fun z => by have := e1.mp z; omega), if_neg (fun z => by have := e2.mp z; omega), if_neg (fun z => by have := e3.mp z; omega)]
    · rw [if_neg h50]
      have a50 : ¬ _ := fun z => h50 (l50.mpr z)
      have a60 := l60.mp h60
      have n10 : ¬ (0 ≤ wh - 10 ∧ wh - 10 ≤ 11) := fun z => by have := r10.mp z; omega
      have n30 : ¬ (0 ≤ wh - 30 ∧ wh - 30 ≤ 11) := fun z => by have := r30.mp z; omega
      have n60 : ¬ (0 ≤ wh - 60 ∧ wh - 60 ≤ 11) := fun z => by have := r60.mp z; omega
      have l8 := l8 h50 h60
      rw [if_neg n10, if_neg n30]
      by_cases hc : wh - 50 < 8
      · have := l8.mp hc
        rw [if_pos hc, if_pos ⟨r50.mpr (by omega), r57.mpr (by omega)⟩]
      · have c2 : ¬ _ := fun z => hc (l8.mpr z)
        rw [if_neg hc, if_neg (fun z => by have := r57.mp z.2; omega), if_neg n60, if_neg (fun z => by have := e0.mp z; omega), if_neg (fun z => by have := e1.mp z; omega), if_neg (fun z => by have := e2.mp z; omega), if_neg (fun z => by have := e3.mp z; omega)]
  · rw [if_neg h60]
    have a60 : ¬ _ := fun z => h60 (l60.mpr z)
    have n10 : ¬ (0 ≤ wh - 10 ∧ wh - 10 ≤ 11) := fun z => by have := r10.mp z; omega
    have n30 : ¬ (0 ≤ wh - 30 ∧ wh - 30 ≤ 11) := fun z => by have := r30.mp z; omega
    have n57 : ¬ (50 ≤ wh ∧ wh ≤ 57) := fun z => by have := r57.mp z.2; omega
    rw [if_neg n10, if_neg n30, if_neg n57]
    by_cases hc : 0 ≤ wh - 60 ∧ wh - 60 ≤ 11
    · rw [if_pos hc, if_pos hc]
    · rw [if_neg hc, if_neg hc, if_neg (fun z => by have := e0.mp z; omega), if_neg (fun z => by have := e1.mp z; omega), if_neg (fun z => by have := e2.mp z; omega), if_neg (fun z => by have := e3.mp z; omega)]
/-- a plan's row as the class has it -/
theorem gPlx {π : gPS} {pn k : Nat} {x : Int32} (h : gPlOk π pn) (hk : k < pn) (hx : ¬ π 11 k = 0 → x = π 12 k) : π 11 k = 0 ∨ ((π 11 k = 1 ∨ π 11 k = 2) ∧ (π 12 k).toNatClampNeg < 6 ∧ x = nI (π 12 k).toNatClampNeg) ∨ (π 11 k = 3 ∧ (π 12 k).toNatClampNeg < 12 ∧ x = nI (π 12 k).toNatClampNeg) := by
  rcases h k hk with h0 | ⟨h1, q, hq, e⟩ | ⟨h3, q, hq, e⟩
  · exact Or.inl h0
  · have ec : (π 12 k).toNatClampNeg = q := by rw [e, nI_clamp (by omega)]
    have h0 : ¬ π 11 k = 0 := fun z => by rcases h1 with h1 | h1 <;> exact absurd (z.symm.trans h1) (by decide)
    exact Or.inr (Or.inl ⟨h1, by omega, by rw [hx h0, ec]; exact e⟩)
  · have ec : (π 12 k).toNatClampNeg = q := by rw [e, nI_clamp (by omega)]
    have h0 : ¬ π 11 k = 0 := fun z => absurd (z.symm.trans h3) (by decide)
    exact Or.inr (Or.inr ⟨h3, by omega, by rw [hx h0, ec]; exact e⟩)
/-! FLOWN cut once, or each day -/
def gE6 (π π' : gPS) : Prop := ∀ a, a ≠ 6 → π a = π' a
theorem gE6_joy {π π' : gPS} (h : gE6 π π') (L : gLf) (k : Nat) (ws : Int32) : gJoy π L k ws = gJoy π' L k ws := by
  have hs : gSum π L k ws = gSum π' L k ws := by
    unfold gSum gNu
    rw [h 0 (by decide), h 2 (by decide), h 3 (by decide), h 5 (by decide), h 15 (by decide)]
  unfold gJoy
  rw [hs, h 0 (by decide), h 2 (by decide), h 3 (by decide), h 5 (by decide), h 7 (by decide), h 15 (by decide)]
theorem gE6_fly {π π' : gPS} (h : gE6 π π') (L : gLf) (k : Nat) : gFly π L k ↔ gFly π' L k := by
  unfold gFly
  rw [h 4 (by decide), gE6_joy h]
theorem gE6_u {π π' : gPS} (h : gE6 π π') (a k : Nat) (x : Int32) : gE6 (gU π a k x) (gU π' a k x) := by
  intro b hb
  by_cases e : b = a
  · subst e
    rw [gU_at, gU_at, h b hb]
  · rw [gU_ne e, gU_ne e, h b hb]
theorem gE6_u6 {π π' : gPS} (h : gE6 π π') (k j : Nat) (x y : Int32) : gE6 (gU π 6 k x) (gU π' 6 j y) := fun b hb => by rw [gU_ne hb, gU_ne hb, h b hb]
theorem gE6_dp {π π' : gPS} (h : gE6 π π') (L : gLf) (r : Int32) (k : Nat) : gE6 (gDp π L r k) (gDp π' L r k) := by
  unfold gDp
  by_cases c : gFly π L k
  · rw [if_pos c, if_pos ((gE6_fly h L k).mp c), h 1 (by decide), h 4 (by decide), h 5 (by decide), h 15 (by decide)]
    exact gE6_u6 (gE6_u (gE6_u (gE6_u h _ _ _) _ _ _) _ _ _) _ _ _ _
  · rw [if_neg c, if_neg (fun z => c ((gE6_fly h L k).mpr z)), h 5 (by decide)]
    exact gE6_u h _ _ _
/-- what becomes of FLOWN of j, in a day -/
theorem gDp_6 {π : gPS} {L : gLf} {r : Int32} {k j : Nat} : (gDp π L r k) 6 j = if j = k ∧ gFly π L k then π 6 j + 1 else π 6 j := by
  unfold gDp
  by_cases c : gFly π L k
  · rw [if_pos c]
    by_cases e : j = k
    · subst e
      rw [gU_e]
      exact (if_pos (show j = j ∧ gFly π L j from ⟨rfl, c⟩)).symm
    · rw [gU_o e, gU_ne (by decide), gU_ne (by decide), gU_ne (by decide)]
      exact (if_neg (show ¬ (j = k ∧ gFly π L k) from fun z => e z.1)).symm
  · rw [if_neg c, gU_ne (by decide)]
    exact (if_neg (show ¬ (j = k ∧ gFly π L k) from fun z => c z.2)).symm
/-- FLOWN beside FLOWN cut: y and the less of y and 9999 -/
def gC6 (n D : Nat) (π π' : gPS) : Prop := gE6 π π' ∧ ∀ j, j < n → ∃ y : Nat, y ≤ D ∧ π 6 j = nI y ∧ π' 6 j = nI (min y 9999)
theorem gC7_dy {π π' : gPS} {n D : Nat} (h : gC6 n D π π') (L : gLf) (r : Int32) : ∀ k : Nat, gE6 (gDy π L r k) (gDy π' L r k) ∧ ∀ j, j < n → ∃ y : Nat, y ≤ D ∧ π 6 j = nI y ∧ π' 6 j = nI (min y 9999) ∧ (((gDy π L r k) 6 j = nI y ∧ (gDy π' L r k) 6 j = nI (min y 9999)) ∨ (j < k ∧ (gDy π L r k) 6 j = nI (y + 1) ∧ (gDy π' L r k) 6 j = nI (min y 9999 + 1)))
  | 0 => ⟨h.1, fun j hj => by obtain ⟨y, a, b, c⟩ := h.2 j hj; exact ⟨y, a, b, c, Or.inl ⟨b, c⟩⟩⟩
  | k + 1 => by
    obtain ⟨i1, i2⟩ := gC7_dy h L r k
    refine ⟨gE6_dp i1 L r k, fun j hj => ?_⟩
    obtain ⟨y, a, b, c, d⟩ := i2 j hj
    refine ⟨y, a, b, c, ?_⟩
    rw [gDy, gDy, gDp_6, gDp_6]
    by_cases e : j = k
    · subst e
      rcases d with ⟨d1, d2⟩ | ⟨d0, -, -⟩
      · by_cases f : gFly (gDy π L r j) L j
        · rw [if_pos ⟨rfl, f⟩, if_pos ⟨rfl, (gE6_fly i1 L j).mp f⟩, d1, d2]
          exact Or.inr ⟨by omega, gAdd rfl rfl, gAdd rfl rfl⟩
        · rw [if_neg (fun z => f z.2), if_neg (fun z => f ((gE6_fly i1 L j).mpr z.2)), d1, d2]
          exact Or.inl ⟨rfl, rfl⟩
      · omega
    · rw [if_neg (fun z => e z.1), if_neg (fun z => e z.1)]
      rcases d with d | ⟨d0, d1, d2⟩
      · exact Or.inl d
      · exact Or.inr ⟨by omega, d1, d2⟩
theorem gDy_6o {π : gPS} {L : gLf} {r : Int32} {j : Nat} : ∀ k : Nat, k ≤ j → (gDy π L r k) 6 j = π 6 j
  | 0, _ => rfl
  | k + 1, h => by rw [gDy, gDp_6, if_neg (fun z => by have := z.1; omega), gDy_6o k (by omega)]
theorem gMn_6 {π : gPS} {j : Nat} : ∀ p : Nat, (gMn π p) 6 j = if j < p then (if π 6 j < 9999 then π 6 j else 9999) else π 6 j
  | 0 => by rw [gMn, if_neg (Nat.not_lt_zero _)]
  | p + 1 => by
    have h := gMn_6 (π := π) (j := j) p
    rw [gMn]
    by_cases e : j = p
    · subst e
      rw [if_neg (Nat.lt_irrefl j)] at h
      rw [gU_e, h]
      exact (if_pos (Nat.lt_succ_self j)).symm
    · rw [gU_o e, h]
      by_cases z : j < p
      · rw [if_pos z]
        exact (if_pos (show j < p + 1 by omega)).symm
      · rw [if_neg z]
        exact (if_neg (show ¬ j < p + 1 by omega)).symm
theorem gMin_n {y : Nat} (hy : y < 2147483648) : (if nI y < 9999 then nI y else 9999) = nI (min y 9999) := by
  by_cases h : y < 9999
  · rw [if_pos ((gLt (y := 9999) (b := 9999) rfl rfl hy (by omega)).mpr h), Nat.min_eq_left (by omega)]
  · rw [if_neg (fun z => h ((gLt (y := 9999) (b := 9999) rfl rfl hy (by omega)).mp z)), Nat.min_eq_right (by omega)]
    rfl
theorem gE6_mn {π π' : gPS} (h : gE6 π π') (p q : Nat) : gE6 (gMn π p) (gMn π' q) := fun a ha => by rw [gMn_r ha, gMn_r ha, h a ha]
theorem gPa_e {π : gPS} {L : gLf} {n : Nat} (hf : ∀ j, j < n → ∃ y : Nat, y ≤ 9999 ∧ π 6 j = nI y) : ∀ d : Nat, d ≤ 1000 → gC6 n (9999 + d) (gDs π L n d) (gPa π L n d) ∧ ∀ j, n ≤ j → (gPa π L n d) 6 j = (gDs π L n d) 6 j
  | 0, _ => ⟨⟨fun _ _ => rfl, fun j hj => by obtain ⟨y, a, b⟩ := hf j hj; exact ⟨y, by omega, b, by rw [Nat.min_eq_left a]; exact b⟩⟩, fun _ _ => rfl⟩
  | d + 1, hd => by
    obtain ⟨ih, io⟩ := gPa_e hf d (by omega)
    obtain ⟨e1, e2⟩ := gC7_dy ih L (gRs L L.1) n
    have ed : gE6 (gDay (gDs π L n d) L n) (gDay (gPa π L n d) L n) := by
      unfold gDay
      rw [e1 15 (by decide)]
      exact gE6_u e1 _ _ _
    have r6 : ∀ (X : gPS) (j : Nat), (gDay X L n) 6 j = (gDy X L (gRs L L.1) n) 6 j := fun X j => by
      unfold gDay
      rw [gU_ne (by decide)]
    refine ⟨⟨fun a ha => ?_, fun j hj => ?_⟩, fun j hj => ?_⟩
    · rw [gDs, gPa, gMn_r ha]
      exact ed a ha
    · obtain ⟨y, a, b, c, dd⟩ := e2 j hj
      rw [gDs, gPa, gMn_6, if_pos hj, r6, r6]
      rcases dd with ⟨d1, d2⟩ | ⟨-, d1, d2⟩
      · refine ⟨y, by omega, d1, ?_⟩
        rw [d2, gMin_n (by omega)]
        congr 1
        omega
      · refine ⟨y + 1, by omega, d1, ?_⟩
        rw [d2, gMin_n (by omega)]
        congr 1
        omega
    · rw [gDs, gPa, gMn_6, if_neg (by omega), r6, r6, gDy_6o n hj, gDy_6o n hj]
      exact io j hj
/-- FLOWN cut once behind all days is FLOWN cut each day -/
theorem gMn_pa {π : gPS} {L : gLf} {n d : Nat} (hf : ∀ j, j < n → ∃ y : Nat, y ≤ 9999 ∧ π 6 j = nI y) (hd : d ≤ 1000) : gMn (gDs π L n d) n = gPa π L n d := by
  obtain ⟨⟨h1, h2⟩, h3⟩ := gPa_e (L := L) hf d hd
  funext a
  by_cases ha : a = 6
  · subst ha
    funext j
    rw [gMn_6]
    by_cases hj : j < n
    · obtain ⟨y, a, b, c⟩ := h2 j hj
      rw [if_pos hj, b, c, gMin_n (by omega)]
    · rw [if_neg hj]
      exact (h3 j (by omega)).symm
  · rw [gMn_r ha]
    exact h1 a ha
