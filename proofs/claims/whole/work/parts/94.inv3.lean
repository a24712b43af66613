/-! ACTS, TAPES, TEXT: what holds is kept -/
/-- the class's Act beside the reference's traces -/
def gTA (α μ : gPS) : Prop := α 0 = μ 1 ∧ α 1 0 = μ 4 1
theorem gTA_1 {α μ : gPS} {x : Int32} (h : gTA α μ) : gTA (gTb1 α x) (gTr1 μ x) := by
  obtain ⟨h0, h1⟩ := h
  unfold gTA gTb1 gTr1
  rw [gU_ne (show 0 ≠ 1 by decide), gU_ne (show 1 ≠ 4 by decide), gU_e, gU_e, h1]
  refine ⟨?_, rfl⟩
  split
  · rw [gU_at, gU_at, h0]
  · exact h0
theorem gTA_l : ∀ (l : List Int32) {α μ : gPS}, gTA α μ → gTA (gTbs α l) (gTrs μ l)
  | [], _, _, h => h
  | b :: l, _, _, h => gTA_l l (gTA_1 (x := b) h)
theorem gTA_st {α μ : gPS} {i v : Int32} (h : gTA α μ) : gTA (gAst α i v) (gU μ 4 1 0) := by
  unfold gTA
  rw [gAst_0, gU_e]
  refine ⟨?_, rfl⟩
  unfold gAst
  rw [gU_ne (by decide), gU_ne (by decide), gU_ne (by decide), gU_ne (by decide)]
  exact h.1
theorem gTA_act {π α μ : gPS} {p a x : Int32} (h : gTA α μ) : gTA (gqActA π α p a x) (gqAct π μ p a x).2 := by
  unfold gqActA gqAct
  split
  · split
    · exact gTA_l _ (gTA_st h)
    · exact gTA_st h
  · exact gTA_st h
/-- an act's rows of traces only -/
theorem gTrs_r : ∀ (l : List Int32) {μ : gPS} {a : Nat}, a ≠ 1 → a ≠ 4 → (gTrs μ l) a = μ a
  | [], _, _, _, _ => rfl
  | b :: l, μ, a, h1, h4 => by
    have e := gTrs_r l (μ := gTr1 μ b) h1 h4
    rw [show gTrs μ (b :: l) = gTrs (gTr1 μ b) l from rfl, e]
    unfold gTr1
    rw [gU_ne h4]
    split
    · rw [gU_ne h1]
    · rfl
theorem gTrs_4 : ∀ (l : List Int32) {μ : gPS} {i : Nat}, i ≠ 1 → (gTrs μ l) 4 i = μ 4 i
  | [], _, _, _ => rfl
  | b :: l, μ, i, h => by
    have e := gTrs_4 l (μ := gTr1 μ b) h
    rw [show gTrs μ (b :: l) = gTrs (gTr1 μ b) l from rfl, e]
    unfold gTr1
    rw [gU_o h]
    split
    · rw [gU_ne (by decide)]
    · rfl
theorem gAct_r {π μ : gPS} {p a x : Int32} {r : Nat} (h1 : r ≠ 1) (h4 : r ≠ 4) : (gqAct π μ p a x).2 r = μ r := by
  unfold gqAct
  split
  · split
    · show (gTrs (gU μ 4 1 0) _) r = _
      rw [gTrs_r _ h1 h4, gU_ne h4]
    · show (gU μ 4 1 0) r = _
      rw [gU_ne h4]
  · show (gU μ 4 1 0) r = _
    rw [gU_ne h4]
theorem gAct_4 {π μ : gPS} {p a x : Int32} {i : Nat} (h : i ≠ 1) : (gqAct π μ p a x).2 4 i = μ 4 i := by
  unfold gqAct
  split
  · split
    · show (gTrs (gU μ 4 1 0) _) 4 i = _
      rw [gTrs_4 _ h, gU_o h]
    · show (gU μ 4 1 0) 4 i = _
      rw [gU_o h]
  · show (gU μ 4 1 0) 4 i = _
    rw [gU_o h]
theorem gTel_l (p : Nat) (v : Int32) (kk k : Nat) (x : Int32) : (gTel p v kk k x).2.length ≤ 12 := by
  have h := gFli_l p v kk kk x
  have h1 := gFli_l p v kk kk 1
  have h2 := gFli_l p v kk kk (x - nI p)
  unfold gTel
  split <;> simp only [List.length_append, List.length_cons, List.length_nil] <;> omega
theorem gAct_l {π : gPS} {q : Nat} {a x : Int32} : (gAct π q a x).2.length ≤ 12 := by
  unfold gAct
  split
  · exact Nat.le_trans (gCoo_l _ _ _ _) (by omega)
  · split
    · exact Nat.le_trans (gFli_l _ _ _ _ _) (by omega)
    · exact gTel_l _ _ _ _ _
theorem gAct_n {π μ : gPS} {p a x : Int32} : ∃ rn, rn ≤ 4096 ∧ (gqAct π μ p a x).2 4 1 = nI rn := by
  have h0 : (gU μ 4 1 0) 4 1 = nI 0 := by rw [gU_e]; rfl
  unfold gqAct
  split
  · split
    · refine ⟨0 + (gAct π p.toNatClampNeg a x).2.length, ?_, gTrs_n (t := 0) _ h0⟩
      have := gAct_l (π := π) (q := p.toNatClampNeg) (a := a) (x := x)
      omega
    · exact ⟨0, by omega, h0⟩
  · exact ⟨0, by omega, h0⟩
/-- the class reads these of μ only -/
theorem gCN_mu {G : gW} {B lp lk : Nat} {π πk μ μ' α : gPS} {g : Nat → Int64} {H : Heap} (h0 : μ' 0 = μ 0) (h2 : μ' 2 = μ 2) (h3 : μ' 3 = μ 3) (e0 : μ' 4 0 = μ 4 0) (e2 : μ' 4 2 = μ 4 2) (e3 : μ' 4 3 = μ 4 3) (h : gCN G B lp π lk πk μ α g H) : gCN G B lp π lk πk μ' α g H := by
  unfold gCN gLO gLB2 gLB gLT at h ⊢
  rw [h0, h2, h3, e0, e2, e3]
  exact h
theorem gTpe_same {μ μ' : gPS} (h2 : μ' 2 = μ 2) (h3 : μ' 3 = μ 3) (h : gTpe μ) : gTpe μ' := by
  unfold gTpe at h ⊢
  rw [h2, h3]
  exact h
theorem gTpe_tape {μ : gPS} {g : Nat → Int64} {t so x : Int32} (h : gTpe μ) : gTpe (gqTape μ g t so x).2.1 := by
  unfold gqTape
  split
  · split
    · rename_i ht hs
      obtain ⟨k, hk, e⟩ := gIx (z := 6) (n := 6) rfl (by omega) ⟨ht.1, Int32.lt_of_le_of_lt ht.2 (by decide)⟩
      have ek : t.toNatClampNeg = k := by rw [e]; exact nI_clamp (by omega)
      split
      · rename_i h0
        have hm : so = -1 := by
          have a : ¬ so < -1 := Int32.not_lt.mpr hs.1
          rcases Int32.lt_or_eq_of_le hs.1 with q | q
          · exact absurd h0 (Int32.not_lt.mpr (by
              have := Int32.lt_iff_toInt_lt.mp q
              rw [Int32.le_iff_toInt_le]
              have e1 : (-1 : Int32).toInt = -1 := by decide
              have e2 : (0 : Int32).toInt = 0 := by decide
              omega))
          · exact q.symm
        intro j hj
        show ((gU (gU μ 2 t.toNatClampNeg so) 3 t.toNatClampNeg 0) 2 j = -1 ∧ (gU (gU μ 2 t.toNatClampNeg so) 3 t.toNatClampNeg 0) 3 j = 0) ∨ ∃ so' z : Nat, so' < 5 ∧ z ≤ 60 ∧ (gU (gU μ 2 t.toNatClampNeg so) 3 t.toNatClampNeg 0) 2 j = nI so' ∧ (gU (gU μ 2 t.toNatClampNeg so) 3 t.toNatClampNeg 0) 3 j = nI z
        rw [ek, gU_ne (show 2 ≠ 3 by decide)]
        by_cases z : j = k
        · subst z
          rw [gU_e, gU_e]
          exact Or.inl ⟨hm, rfl⟩
        · rw [gU_o z, gU_o z, gU_ne (show 3 ≠ 2 by decide)]
          exact h j hj
      · rename_i h0
        split
        · rename_i hx
          split
          · rename_i hx0
            obtain ⟨s9, hs9, es⟩ := gIx (z := 5) (n := 5) rfl (by omega) ⟨Int32.not_lt.mp h0, Int32.lt_of_le_of_lt hs.2 (by decide)⟩
            obtain ⟨x9, hx9, ex⟩ := gIx (z := 61) (n := 61) rfl (by omega) ⟨hx0, Int32.lt_of_le_of_lt hx (by decide)⟩
            intro j hj
            show ((gU (gU μ 2 t.toNatClampNeg so) 3 t.toNatClampNeg x) 2 j = -1 ∧ (gU (gU μ 2 t.toNatClampNeg so) 3 t.toNatClampNeg x) 3 j = 0) ∨ ∃ so' z : Nat, so' < 5 ∧ z ≤ 60 ∧ (gU (gU μ 2 t.toNatClampNeg so) 3 t.toNatClampNeg x) 2 j = nI so' ∧ (gU (gU μ 2 t.toNatClampNeg so) 3 t.toNatClampNeg x) 3 j = nI z
            rw [ek, gU_ne (show 2 ≠ 3 by decide)]
            by_cases z : j = k
            · subst z
              rw [gU_e, gU_e]
              exact Or.inr ⟨s9, x9, hs9, by omega, es, ex⟩
            · rw [gU_o z, gU_o z, gU_ne (show 3 ≠ 2 by decide)]
              exact h j hj
          · exact h
        · exact h
    · exact h
  · exact h
theorem gqTape_r {μ : gPS} {g : Nat → Int64} {t so x : Int32} {r : Nat} (h2 : r ≠ 2) (h3 : r ≠ 3) : (gqTape μ g t so x).2.1 r = μ r := by
  unfold gqTape
  split
  · split
    · split
      · show (gU (gU μ 2 _ so) 3 _ 0) r = _
        rw [gU_ne h3, gU_ne h2]
      · split
        · split
          · show (gU (gU μ 2 _ so) 3 _ x) r = _
            rw [gU_ne h3, gU_ne h2]
          · rfl
        · rfl
    · rfl
  · rfl
/-- the text -/
def gTxt (μ : gPS) : Prop := ∃ tn, μ 4 0 = nI tn ∧ gTx (μ 0) tn
theorem gTxt_feed {μ : gPS} {sg : Int32} (h : gTxt μ) : gTxt (gqFeed μ sg).2 := by
  unfold gqFeed
  split
  · rename_i hs
    split
    · exact h
    · rename_i h9
      obtain ⟨tn, ht, h1, h2⟩ := h
      have hlt : tn < 100 := by
        rcases Nat.lt_or_ge tn 100 with q | q
        · exact q
        · exact absurd (by rw [ht, show tn = 100 by omega]; rfl) h9
      have et : (μ 4 0).toNatClampNeg = tn := by rw [ht]; exact nI_clamp (by omega)
      obtain ⟨y, hy, e⟩ := gIx (z := 128) (n := 128) rfl (by omega) ⟨hs.1, Int32.lt_of_le_of_lt hs.2 (by decide)⟩
      refine ⟨tn + 1, ?_, by omega, fun j hj => ?_⟩
      · show (gU (gU μ 4 0 (μ 4 0 + 1)) 0 (μ 4 0).toNatClampNeg sg) 4 0 = _
        rw [gU_ne (by decide), gU_e]
        exact gAdd ht rfl
      · show ∃ x, x < 128 ∧ (gU (gU μ 4 0 (μ 4 0 + 1)) 0 (μ 4 0).toNatClampNeg sg) 0 j = nI x
        rw [et]
        by_cases z : j = tn
        · subst z
          exact ⟨y, hy, by rw [gU_e]; exact e⟩
        · rw [gU_o z, gU_ne (by decide)]
          exact h2 j (by omega)
  · exact h
theorem gFeed_r {μ : gPS} {sg : Int32} {r : Nat} (h0 : r ≠ 0) (h4 : r ≠ 4) : (gqFeed μ sg).2 r = μ r := by
  unfold gqFeed
  split
  · split
    · rfl
    · show (gU (gU μ 4 0 (μ 4 0 + 1)) 0 (μ 4 0).toNatClampNeg sg) r = _
      rw [gU_ne h0, gU_ne h4]
  · rfl
theorem gFeed_4 {μ : gPS} {sg : Int32} {i : Nat} (h : i ≠ 0) : (gqFeed μ sg).2 4 i = μ 4 i := by
  unfold gqFeed
  split
  · split
    · rfl
    · show (gU (gU μ 4 0 (μ 4 0 + 1)) 0 (μ 4 0).toNatClampNeg sg) 4 i = _
      rw [gU_ne (by decide), gU_o h]
  · rfl
