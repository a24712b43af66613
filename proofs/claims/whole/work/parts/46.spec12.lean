/-! THE CLASS, in our words -/
def gTb1 (f : gPS) (b : Int32) : gPS := gU (if f 1 0 < 20 then gU f 0 (f 1 0).toNatClampNeg b else f) 1 0 (f 1 0 + 1)
/-- a Loft's five numbers: end, at, stepCount, weighed, rest -/
def gS6 (e a c w r : Int32) (k : Nat) : Int32 := match k with
  | 0 => e
  | 1 => a
  | 2 => c
  | 3 => w
  | 4 => r
  | _ => 0
/-- a token as the class keeps it -/
def gStp (x : Nat) : Int32 := if 3 ≤ x then nI (x - 3) else -(nI (x + 1))
def gCs (E0 : Nat → Int32) (c : Nat) (E : Nat → Int32) (K : List Nat) : Prop := (∀ j, j < c → E j = E0 j) ∧ ∀ q, q < K.length → E (c + q) = gStp (K.getD q 0)
theorem gCs_0 {E : Nat → Int32} {c : Nat} : gCs E c E [] := ⟨fun _ _ => rfl, fun _ h => absurd h (Nat.not_lt_zero _)⟩
theorem gCs_t {E0 E1 E2 : Nat → Int32} {c : Nat} {K J : List Nat} (h : gCs E0 c E1 K) (h2 : gCs E1 (c + K.length) E2 J) : gCs E0 c E2 (K ++ J) := by
  refine ⟨fun j hj => (h2.1 j (by omega)).trans (h.1 j hj), fun q hq => ?_⟩
  rw [List.length_append] at hq
  by_cases z : q < K.length
  · rw [h2.1 (c + q) (by omega), h.2 q z, List.getD_eq_getElem?_getD, List.getD_eq_getElem?_getD, List.getElem?_append_left z]
  · rw [List.getD_eq_getElem?_getD, List.getElem?_append_right (by omega), ← List.getD_eq_getElem?_getD]
    have e := h2.2 (q - K.length) (by omega)
    rw [show c + K.length + (q - K.length) = c + q by omega] at e
    exact e
theorem gCs_1 {E : Nat → Int32} {c x : Nat} {y : Int32} (hy : y = gStp x) : gCs E c (upd E c y) [x] := by
  refine ⟨fun j hj => ?_, fun q hq => ?_⟩
  · unfold upd
    rw [if_neg (by omega)]
  · have e : q = 0 := by
      simp only [List.length_cons, List.length_nil] at hq
      omega
    subst e
    unfold upd
    rw [if_pos (Nat.add_zero c)]
    exact hy
theorem gCs_a {E0 E1 : Nat → Int32} {c x : Nat} {y : Int32} {K : List Nat} (h : gCs E0 c E1 K) (hy : y = gStp x) : gCs E0 c (upd E1 (c + K.length) y) (K ++ [x]) := gCs_t h (gCs_1 hy)
/-- which of the signs, one by one -/
def gCix (t : Nat → Int32) (n i p k : Nat) : Nat → Int32
  | 0 => -1
  | d + 1 => if p < n ∧ t p = gChr i k then nI k else gCix t n i p (k + 1) d
theorem gCix_o {t : Nat → Int32} {n i p : Nat} (h : ¬ p < n) : ∀ d k : Nat, gCix t n i p k d = -1
  | 0, _ => rfl
  | d + 1, k => by rw [gCix, if_neg (fun z => h z.1), gCix_o h d]
theorem gCix_i {t : Nat → Int32} {n i p x : Nat} (h : p < n) (e : t p = nI x) : ∀ d k : Nat, gCix t n i p k d = gIxo i x k d
  | 0, _ => rfl
  | d + 1, k => by
    rw [gCix, gIxo, gCix_i h e d]
    by_cases z : gChr i k = nI x
    · rw [if_pos z, if_pos ⟨h, e.trans z.symm⟩]
    · rw [if_neg z, if_neg (fun q => z (q.2.symm.trans e))]
theorem gCix_e {t : Nat → Int32} {n i p : Nat} (hT : gTx t n) (hi : i < 2) : gCix t n i p 0 (gLen.getD i 0) = gOne t n i p := by
  unfold gOne
  by_cases h : p < n
  · obtain ⟨x, hx, e⟩ := hT.2 p h
    rw [gCix_i h e]
    by_cases z : x = 0
    · subst z
      rw [if_neg (fun q => absurd q.2 (by rw [e]; decide))]
      revert i
      decide
    · rw [if_pos ⟨h, by rw [e]; exact (gLt (x := 0) (a := 0) rfl rfl (by omega) (by omega)).mpr (by omega)⟩, e, nI_clamp (by omega)]
  · rw [gCix_o h, if_neg (fun q => h q.1)]
theorem gTe_pos {t : Nat → Int32} {n p : Nat} (h : (gTe t n p).1 = true) : p < (gTe t n p).2.1 := by
  unfold gTe at h ⊢
  by_cases h1 : gOne t n 0 p < 0
  · rw [if_pos h1] at h
    cases h
  · rw [if_neg h1] at h ⊢
    by_cases h2 : gOne t n 1 (p + 1) < 0
    · rw [if_pos h2] at h
      cases h
    · rw [if_neg h2] at h ⊢
      by_cases h3 : (gNum t n (p + 1 + 1)).1 = true
      · rw [if_pos h3]
        have a2 := gOne_lt h2
        have f := gNum_fit (t := t) (n := n) (p := p + 1 + 1) (by omega)
        show p < (gNum t n (p + 1 + 1)).2.1
        omega
      · rw [if_neg h3] at h
        cases h
theorem gPF_pos {t : Nat → Int32} {n p : Nat} (hp : p ≤ n) : ∀ d : Nat, (gPF t n d p).1 = true → p < (gPF t n d p).2.1
  | 0 => fun h => gTe_pos h
  | d + 1 => by
    intro h
    rw [gPF.eq_2] at h ⊢
    by_cases h1 : p < n ∧ t p = 33
    · rw [if_pos h1] at h ⊢
      have f := (gPF_fit t n d (p + 1) (by omega)).1
      by_cases h2 : (gPF t n d (p + 1)).1 = true
      · rw [if_pos h2]
        show p < (gPF t n d (p + 1)).2.1
        omega
      · rw [if_neg h2] at h
        cases h
    · rw [if_neg h1] at h ⊢
      by_cases h2 : p < n ∧ t p = 40
      · rw [if_pos h2] at h ⊢
        have f := (gPE_fit (t := t) (gPF_fit t n d) (p + 1) (by omega)).1
        by_cases h3 : (gPE (gPF t n d) t n (p + 1)).1 = true
        · rw [if_pos h3] at h ⊢
          by_cases h4 : (gPE (gPF t n d) t n (p + 1)).2.1 < n ∧ t (gPE (gPF t n d) t n (p + 1)).2.1 = 41
          · rw [if_pos h4]
            show p < (gPE (gPF t n d) t n (p + 1)).2.1 + 1
            omega
          · rw [if_neg h4] at h
            cases h
        · rw [if_neg h3] at h
          cases h
      · rw [if_neg h2] at h ⊢
        exact gTe_pos h
theorem gT_pos {t : Nat → Int32} {n p d : Nat} (hp : p ≤ n) (h : (gT t n d p).1 = true) : p < (gT t n d p).2.1 := by
  unfold gT gPT at h ⊢
  by_cases h1 : (gPF t n d p).1 = true
  · rw [if_pos h1]
    have a := gPF_pos hp d h1
    have b := (gTl_fit (t := t) (z := 38) (op := 1) (gPF_fit t n d) (n + 1) (gPF t n d p).2.1 (gPF t n d p).2.2 (gPF_fit t n d p hp).2.1).1
    omega
  · rw [if_neg h1] at h
    cases h
