/-! THE READING OF A LOFT, in our words: t is the text, n its bytes, p a place of it. Tokens: 0 not, 1 and, 2 or, from 3 on a test. -/
/-- the reader's five numbers: at, value, digits, open, coded -/
def gS5 (a v d o c : Int32) (k : Nat) : Int32 := match k with
  | 1 => a
  | 2 => v
  | 3 => d
  | 4 => o
  | 6 => c
  | _ => 0
def gTx (t : Nat → Int32) (n : Nat) : Prop := n ≤ 100 ∧ ∀ j, j < n → ∃ x, x < 128 ∧ t j = nI x
abbrev gDg (t : Nat → Int32) (n p : Nat) : Prop := p < n ∧ 48 ≤ t p ∧ t p ≤ 57
def gDv (t : Nat → Int32) (p : Nat) : Nat := (t p).toNatClampNeg - 48
/-- a number of one digit, or two: is it one, the place behind it, what it is -/
def gNum (t : Nat → Int32) (n p : Nat) : Bool × Nat × Nat := if gDg t n p then (if gDg t n (p + 1) then (true, p + 1 + 1, 10 * gDv t p + gDv t (p + 1)) else (true, p + 1, gDv t p)) else (false, p, 0)
/-- the literal i, from its sign k on -/
def gAll (t : Nat → Int32) (n i : Nat) : Nat → Nat → Nat → Bool × Nat
  | 0, _, p => (true, p)
  | d + 1, k, p => if p < n ∧ t p = gChr i k then gAll t n i d (k + 1) (p + 1) else (false, p)
/-- which of the signs of the literal i stands at p -/
def gOne (t : Nat → Int32) (n i p : Nat) : Int32 := if p < n ∧ 0 < t p then gIxo i (t p).toNatClampNeg 0 (gLen.getD i 0) else -1
def gTe (t : Nat → Int32) (n p : Nat) : Bool × Nat × List Nat := if gOne t n 0 p < 0 then (false, p, []) else if gOne t n 1 (p + 1) < 0 then (false, p + 1, []) else if (gNum t n (p + 1 + 1)).1 = true then (true, (gNum t n (p + 1 + 1)).2.1, [3 + 300 * (gOne t n 0 p).toNatClampNeg + 100 * (gOne t n 1 (p + 1)).toNatClampNeg + (gNum t n (p + 1 + 1)).2.2]) else (false, (gNum t n (p + 1 + 1)).2.1, [])
/-- more of the same, each behind the sign z and with the token op -/
def gTl (pf : Nat → Bool × Nat × List Nat) (t : Nat → Int32) (n : Nat) (z : Int32) (op : Nat) : Nat → Nat → List Nat → Bool × Nat × List Nat
  | 0, a, K => (true, a, K)
  | m + 1, a, K => if a < n ∧ t a = z then (if (pf (a + 1)).1 = true then gTl pf t n z op m (pf (a + 1)).2.1 (K ++ (pf (a + 1)).2.2 ++ [op]) else (false, (pf (a + 1)).2.1, K ++ (pf (a + 1)).2.2)) else (true, a, K)
def gPT (pf : Nat → Bool × Nat × List Nat) (t : Nat → Int32) (n : Nat) (z : Int32) (op p : Nat) : Bool × Nat × List Nat := if (pf p).1 = true then gTl pf t n z op (n + 1) (pf p).2.1 (pf p).2.2 else (false, (pf p).2.1, (pf p).2.2)
def gPE (pf : Nat → Bool × Nat × List Nat) (t : Nat → Int32) (n p : Nat) : Bool × Nat × List Nat := gPT (fun q => gPT pf t n 38 1 q) t n 124 2 p
/-- a sentence's smallest piece, d brackets being left -/
def gPF (t : Nat → Int32) (n : Nat) : Nat → Nat → Bool × Nat × List Nat
  | 0, p => gTe t n p
  | d + 1, p => if p < n ∧ t p = 33 then (if (gPF t n d (p + 1)).1 = true then (true, (gPF t n d (p + 1)).2.1, (gPF t n d (p + 1)).2.2 ++ [0]) else (false, (gPF t n d (p + 1)).2.1, (gPF t n d (p + 1)).2.2)) else if p < n ∧ t p = 40 then (if (gPE (gPF t n d) t n (p + 1)).1 = true then (if (gPE (gPF t n d) t n (p + 1)).2.1 < n ∧ t (gPE (gPF t n d) t n (p + 1)).2.1 = 41 then (true, (gPE (gPF t n d) t n (p + 1)).2.1 + 1, (gPE (gPF t n d) t n (p + 1)).2.2) else (false, (gPE (gPF t n d) t n (p + 1)).2.1, (gPE (gPF t n d) t n (p + 1)).2.2)) else (false, (gPE (gPF t n d) t n (p + 1)).2.1, (gPE (gPF t n d) t n (p + 1)).2.2)) else gTe t n p
/-- a piece goes on within the text and has no more tokens than signs -/
def gFit (n : Nat) (pf : Nat → Bool × Nat × List Nat) : Prop := ∀ p, p ≤ n → p ≤ (pf p).2.1 ∧ (pf p).2.1 ≤ n ∧ (pf p).2.2.length ≤ (pf p).2.1 - p
theorem gNum_fit {t : Nat → Int32} {n p : Nat} (h : p ≤ n) : p ≤ (gNum t n p).2.1 ∧ (gNum t n p).2.1 ≤ n := by
  unfold gNum
  split
  · rename_i h1
    have a1 := h1.1
    split
    · rename_i h2
      have a2 := h2.1
      show p ≤ p + 1 + 1 ∧ p + 1 + 1 ≤ n
      omega
    · show p ≤ p + 1 ∧ p + 1 ≤ n
      omega
  · exact ⟨Nat.le_refl _, h⟩
theorem gOne_lt {t : Nat → Int32} {n i p : Nat} (h : ¬ gOne t n i p < 0) : p < n := by
  unfold gOne at h
  by_cases q : p < n ∧ 0 < t p
  · exact q.1
  · rw [if_neg q] at h
    exact absurd (by decide) h
theorem gTe_fit (t : Nat → Int32) (n : Nat) : gFit n (gTe t n) := by
  intro p hp
  unfold gTe
  split
  · exact ⟨Nat.le_refl _, hp, Nat.zero_le _⟩
  · rename_i h1
    have a1 := gOne_lt h1
    split
    · exact ⟨by show p ≤ p + 1; omega, a1, Nat.zero_le _⟩
    · rename_i h2
      have a2 := gOne_lt h2
      have f := gNum_fit (t := t) (n := n) (p := p + 1 + 1) (by omega)
      split
      · exact ⟨by show p ≤ (gNum t n (p + 1 + 1)).2.1; omega, f.2, by show 1 ≤ (gNum t n (p + 1 + 1)).2.1 - p; omega⟩
      · exact ⟨by show p ≤ (gNum t n (p + 1 + 1)).2.1; omega, f.2, Nat.zero_le _⟩
theorem gTl_fit {pf : Nat → Bool × Nat × List Nat} {t : Nat → Int32} {n : Nat} {z : Int32} {op : Nat} (h : gFit n pf) : ∀ (m a : Nat) (K : List Nat), a ≤ n → a ≤ (gTl pf t n z op m a K).2.1 ∧ (gTl pf t n z op m a K).2.1 ≤ n ∧ (gTl pf t n z op m a K).2.2.length ≤ K.length + ((gTl pf t n z op m a K).2.1 - a) := by
  intro m
  induction m with
  | zero => intro a K ha; exact ⟨Nat.le_refl _, ha, Nat.le_add_right _ _⟩
  | succ m ih =>
    intro a K ha
    rw [gTl]
    split
    · rename_i h1
      have a1 := h1.1
      obtain ⟨f1, f2, f3⟩ := h (a + 1) (by omega)
      split
      · obtain ⟨g1, g2, g3⟩ := ih (pf (a + 1)).2.1 (K ++ (pf (a + 1)).2.2 ++ [op]) f2
        simp only [List.length_append, List.length_cons, List.length_nil] at g3
        exact ⟨by omega, g2, by omega⟩
      · exact ⟨by show a ≤ (pf (a + 1)).2.1; omega, f2, by show (K ++ (pf (a + 1)).2.2).length ≤ K.length + ((pf (a + 1)).2.1 - a); rw [List.length_append]; omega⟩
    · exact ⟨Nat.le_refl _, ha, Nat.le_add_right _ _⟩
theorem gPT_fit {pf : Nat → Bool × Nat × List Nat} {t : Nat → Int32} {n : Nat} {z : Int32} {op : Nat} (h : gFit n pf) : gFit n (fun p => gPT pf t n z op p) := by
  intro p hp
  show p ≤ (gPT pf t n z op p).2.1 ∧ (gPT pf t n z op p).2.1 ≤ n ∧ (gPT pf t n z op p).2.2.length ≤ (gPT pf t n z op p).2.1 - p
  obtain ⟨f1, f2, f3⟩ := h p hp
  unfold gPT
  split
  · obtain ⟨g1, g2, g3⟩ := gTl_fit (t := t) (z := z) (op := op) h (n + 1) (pf p).2.1 (pf p).2.2 f2
    exact ⟨by omega, g2, by omega⟩
  · exact ⟨f1, f2, f3⟩
theorem gPE_fit {pf : Nat → Bool × Nat × List Nat} {t : Nat → Int32} {n : Nat} (h : gFit n pf) : gFit n (gPE pf t n) := gPT_fit (gPT_fit h)
theorem gPF_fit (t : Nat → Int32) (n : Nat) : ∀ d : Nat, gFit n (gPF t n d)
  | 0 => gTe_fit t n
  | d + 1 => by
    intro p hp
    have hF := gPF_fit t n d
    rw [gPF]
    split
    · rename_i h1
      obtain ⟨f1, f2, f3⟩ := hF (p + 1) (by omega)
      split
      · exact ⟨by show p ≤ (gPF t n d (p + 1)).2.1; omega, f2, by show ((gPF t n d (p + 1)).2.2 ++ [0]).length ≤ (gPF t n d (p + 1)).2.1 - p; rw [List.length_append]; show (gPF t n d (p + 1)).2.2.length + 1 ≤ _; omega⟩
      · exact ⟨by show p ≤ (gPF t n d (p + 1)).2.1; omega, f2, by show (gPF t n d (p + 1)).2.2.length ≤ (gPF t n d (p + 1)).2.1 - p; omega⟩
    · split
      · rename_i h1
        obtain ⟨f1, f2, f3⟩ := gPE_fit (t := t) hF (p + 1) (by omega)
        split
        · split
          · rename_i h2
            exact ⟨by show p ≤ (gPE (gPF t n d) t n (p + 1)).2.1 + 1; omega, h2.1, by show (gPE (gPF t n d) t n (p + 1)).2.2.length ≤ (gPE (gPF t n d) t n (p + 1)).2.1 + 1 - p; omega⟩
          · exact ⟨by show p ≤ (gPE (gPF t n d) t n (p + 1)).2.1; omega, f2, by show (gPE (gPF t n d) t n (p + 1)).2.2.length ≤ (gPE (gPF t n d) t n (p + 1)).2.1 - p; omega⟩
        · exact ⟨by show p ≤ (gPE (gPF t n d) t n (p + 1)).2.1; omega, f2, by show (gPE (gPF t n d) t n (p + 1)).2.2.length ≤ (gPE (gPF t n d) t n (p + 1)).2.1 - p; omega⟩
      · exact gTe_fit t n p hp
/-- the tokens K laid from c on, all below as it was -/
def gCd (E0 : Nat → Int32) (c : Nat) (E : Nat → Int32) (K : List Nat) : Prop := (∀ j, j < c → E j = E0 j) ∧ ∀ q, q < K.length → E (c + q) = nI (K.getD q 0)
theorem gCd_0 {E : Nat → Int32} {c : Nat} : gCd E c E [] := ⟨fun _ _ => rfl, fun _ h => absurd h (Nat.not_lt_zero _)⟩
theorem gCd_t {E0 E1 E2 : Nat → Int32} {c : Nat} {K J : List Nat} (h : gCd E0 c E1 K) (h2 : gCd E1 (c + K.length) E2 J) : gCd E0 c E2 (K ++ J) := by
  refine ⟨fun j hj => (h2.1 j (by omega)).trans (h.1 j hj), fun q hq => ?_⟩
  rw [List.length_append] at hq
  by_cases z : q < K.length
  · rw [h2.1 (c + q) (by omega), h.2 q z, List.getD_eq_getElem?_getD, List.getD_eq_getElem?_getD, List.getElem?_append_left z]
  · rw [List.getD_eq_getElem?_getD, List.getElem?_append_right (by omega), ← List.getD_eq_getElem?_getD]
    have e := h2.2 (q - K.length) (by omega)
    rw [show c + K.length + (q - K.length) = c + q by omega] at e
    exact e
theorem gCd_1 {E : Nat → Int32} {c x : Nat} : gCd E c (upd E c (nI x)) [x] := by
  refine ⟨fun j hj => ?_, fun q hq => ?_⟩
  · unfold upd
    rw [if_neg (by omega)]
  · have e : q = 0 := by
      simp only [List.length_cons, List.length_nil] at hq
      omega
    subst e
    unfold upd
    rw [if_pos (Nat.add_zero c)]
    rfl
theorem gCd_a {E0 E1 : Nat → Int32} {c x : Nat} {K : List Nat} (h : gCd E0 c E1 K) : gCd E0 c (upd E1 (c + K.length) (nI x)) (K ++ [x]) := gCd_t h gCd_1
theorem gDv_e {t : Nat → Int32} {n p : Nat} (h : gDg t n p) : ∃ x : Nat, gDv t p = x ∧ t p = nI (x + 48) ∧ x ≤ 9 := by
  obtain ⟨h1, h2, h3⟩ := h
  obtain ⟨k, hk, e⟩ := gIw (M := 57) (n := 57) rfl (by decide) ⟨Int32.le_trans (by decide) h2, h3⟩
  have h48 : 48 ≤ k := (gLe (x := 48) (a := 48) (b := k) rfl e (by omega) (by omega)).mp h2
  refine ⟨k - 48, ?_, by rw [e, show k - 48 + 48 = k by omega], by omega⟩
  unfold gDv
  rw [e, nI_clamp (by omega)]
theorem gIxo_n (i x : Nat) : ∀ d k : Nat, gIxo i x k d = -1 ∨ ∃ l, l < k + d ∧ gIxo i x k d = nI l := by
  intro d
  induction d with
  | zero => intro k; exact Or.inl rfl
  | succ d ih =>
    intro k
    rw [gIxo]
    split
    · exact Or.inr ⟨k, by omega, rfl⟩
    · rcases ih (k + 1) with h | ⟨l, hl, h⟩
      · exact Or.inl h
      · exact Or.inr ⟨l, by omega, h⟩
theorem gOne_n {t : Nat → Int32} {n i p : Nat} (h : ¬ gOne t n i p < 0) : ∃ l, l < gLen.getD i 0 ∧ gOne t n i p = nI l := by
  have hp := gOne_lt h
  unfold gOne at h ⊢
  by_cases q : p < n ∧ 0 < t p
  · rw [if_pos q] at h ⊢
    rcases gIxo_n i (t p).toNatClampNeg (gLen.getD i 0) 0 with e | ⟨l, hl, e⟩
    · rw [e] at h
      exact absurd (by decide) h
    · exact ⟨l, by omega, e⟩
  · rw [if_neg q] at h
    exact absurd (by decide) h
def gT (t : Nat → Int32) (n d p : Nat) : Bool × Nat × List Nat := gPT (gPF t n d) t n 38 1 p
def gE (t : Nat → Int32) (n d p : Nat) : Bool × Nat × List Nat := gPT (gT t n d) t n 124 2 p
theorem gE_e (t : Nat → Int32) (n d p : Nat) : gPE (gPF t n d) t n p = gE t n d p := rfl
theorem gT_fit (t : Nat → Int32) (n d : Nat) : gFit n (gT t n d) := gPT_fit (gPF_fit t n d)
theorem gE_fit (t : Nat → Int32) (n d : Nat) : gFit n (gE t n d) := gPT_fit (gT_fit t n d)
