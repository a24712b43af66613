/-! A LOFT'S CLAUSES, in our words -/
/-- the clauses from p on, d more of them at most, behind those of acc -/
def gLo (t : Nat → Int32) (n : Nat) : Nat → Nat → List (Nat × Nat × List Nat) → Bool × Nat × List (Nat × Nat × List Nat)
  | 0, p, acc => (false, p, acc)
  | d + 1, p, acc => if (gKl t n p).1 = true then (if (gKl t n p).2.1 = n then (true, (gKl t n p).2.1, acc ++ [(gClk t n p, (gKl t n p).2.2.1, (gKl t n p).2.2.2)]) else if 0 < d ∧ (gKl t n p).2.1 < n ∧ t (gKl t n p).2.1 = 59 then gLo t n d ((gKl t n p).2.1 + 1) (acc ++ [(gClk t n p, (gKl t n p).2.2.1, (gKl t n p).2.2.2)]) else (false, (gKl t n p).2.1, acc ++ [(gClk t n p, (gKl t n p).2.2.1, (gKl t n p).2.2.2)])) else (false, (gKl t n p).2.1, acc)
def gLof (acc : List (Nat × Nat × List Nat)) : gLf := (acc.length, fun i => (acc.getD i (0, 0, [])).1, fun i => nI (acc.getD i (0, 0, [])).2.1, fun i => (acc.getD i (0, 0, [])).2.2)
theorem gNum_fit2 {t : Nat → Int32} {n p : Nat} (h : p ≤ n) : p ≤ (gNum t n p).2.1 ∧ (gNum t n p).2.1 ≤ n := gNum_fit h
theorem gClw_fit {t : Nat → Int32} {n w p : Nat} (hp : p ≤ n) : p ≤ (gClw t n w p).2.1 ∧ (gClw t n w p).2.1 ≤ n ∧ (gClw t n w p).2.2.2.length ≤ (gClw t n w p).2.1 - p := by
  have a := gAll_fit (t := t) (n := n) (i := 5 + w) (gLen.getD (5 + w) 0) 0 p hp
  unfold gClw
  generalize gAll t n (5 + w) (gLen.getD (5 + w) 0) 0 p = A at a
  obtain ⟨a1, a2⟩ := a
  have b := gNum_fit (t := t) a2
  generalize gNum t n A.2 = N at b
  obtain ⟨b1, b2⟩ := b
  split
  · split
    · split
      · exact ⟨by show p ≤ N.2.1; omega, b2, Nat.zero_le _⟩
      · split
        · rename_i h
          have h1 := h.1
          have c := gE_fit t n 4 (N.2.1 + 1) (by omega)
          generalize gE t n 4 (N.2.1 + 1) = R at c
          obtain ⟨c1, c2, c3⟩ := c
          exact ⟨by show p ≤ R.2.1; omega, c2, by show R.2.2.length ≤ R.2.1 - p; omega⟩
        · exact ⟨by show p ≤ N.2.1; omega, b2, Nat.zero_le _⟩
    · exact ⟨by show p ≤ N.2.1; omega, b2, Nat.zero_le _⟩
  · exact ⟨a1, a2, Nat.zero_le _⟩
theorem gKl_fit {t : Nat → Int32} {n p : Nat} (hp : p ≤ n) : p ≤ (gKl t n p).2.1 ∧ (gKl t n p).2.1 ≤ n ∧ (gKl t n p).2.2.2.length ≤ (gKl t n p).2.1 - p := by
  unfold gKl
  split
  · exact ⟨Nat.le_refl _, hp, Nat.zero_le _⟩
  · exact gClw_fit hp
theorem gNum_v {t : Nat → Int32} {n p : Nat} : (gNum t n p).2.2 < 100 := by
  unfold gNum
  split
  · rename_i h
    obtain ⟨x, h1, -, h3⟩ := gDv_e h
    split
    · rename_i h2
      obtain ⟨y, g1, -, g3⟩ := gDv_e h2
      show 10 * gDv t p + gDv t (p + 1) < 100
      omega
    · show gDv t p < 100
      omega
  · show 0 < 100
    omega
/-- the tokens K run from any height that leaves room, and make one more -/
def gOk (K : List Nat) (D : Nat) : Prop := ∀ (rest : List Nat) (h : Nat), h + D ≤ 30 → gRun (K ++ rest) h = gRun rest (h + 1)
theorem gRun_tst {c : Nat} {r : List Nat} {h : Nat} (h3 : 3 ≤ c) (hc : c < 1803) (hh : h < 30) : gRun (c :: r) h = gRun r (h + 1) := by
  rw [gRun]
  simp [h3, hc, hh]
theorem gRun_not {r : List Nat} {h : Nat} (hh : 1 ≤ h) : gRun (0 :: r) h = gRun r h := by
  rw [gRun]
  simp [hh]
theorem gRun_bin {c : Nat} {r : List Nat} {h : Nat} (hc : c = 1 ∨ c = 2) (hh : 2 ≤ h) : gRun (c :: r) h = gRun r (h - 1) := by
  rw [gRun]
  rcases hc with rfl | rfl <;> simp [hh]
theorem gTe_ok {t : Nat → Int32} {n p : Nat} (h : (gTe t n p).1 = true) : gOk (gTe t n p).2.2 1 := by
  unfold gTe at h ⊢
  by_cases h1 : gOne t n 0 p < 0
  · rw [if_pos h1] at h
    cases h
  · rw [if_neg h1] at h ⊢
    by_cases h2 : gOne t n 1 (p + 1) < 0
    · rw [if_pos h2] at h
      cases h
    · rw [if_neg h2] at h ⊢
      by_cases h3 : (gNum t n (p + 1 + 1)).1 = true
      · rw [if_pos h3]
        obtain ⟨a, ha, ea⟩ := gOne_n h1
        obtain ⟨b, hb, eb⟩ := gOne_n h2
        have ha : a < 6 := ha
        have hb : b < 3 := hb
        have hv := gNum_v (t := t) (n := n) (p := p + 1 + 1)
        intro rest hh hle
        show gRun (_ :: rest) hh = _
        rw [ea, eb, nI_clamp (by omega), nI_clamp (by omega)]
        exact gRun_tst (by omega) (by omega) (by omega)
      · rw [if_neg h3] at h
        cases h
theorem gTl_ok {pf : Nat → Bool × Nat × List Nat} {t : Nat → Int32} {n : Nat} {z : Int32} {op D : Nat} (hop : op = 1 ∨ op = 2) (hpf : ∀ q, (pf q).1 = true → gOk (pf q).2.2 D) : ∀ (m a : Nat) (K : List Nat), gOk K (D + 1) → (gTl pf t n z op m a K).1 = true → gOk (gTl pf t n z op m a K).2.2 (D + 1) := by
  intro m
  induction m with
  | zero => intro a K hK _; exact hK
  | succ m ih =>
    intro a K hK h
    rw [gTl] at h ⊢
    by_cases h1 : a < n ∧ t a = z
    · rw [if_pos h1] at h ⊢
      by_cases h2 : (pf (a + 1)).1 = true
      · rw [if_pos h2] at h ⊢
        refine ih _ _ ?_ h
        intro rest hh hle
        rw [List.append_assoc, List.append_assoc, hK _ _ hle, hpf _ h2 _ _ (by omega)]
        exact gRun_bin hop (by omega)
      · rw [if_neg h2] at h
        cases h
    · rw [if_neg h1]
      exact hK
theorem gOk_up {K : List Nat} {D E : Nat} (h : gOk K D) (hE : D ≤ E) : gOk K E := fun rest hh hle => h rest hh (by omega)
theorem gPT_ok {pf : Nat → Bool × Nat × List Nat} {t : Nat → Int32} {n : Nat} {z : Int32} {op D p : Nat} (hop : op = 1 ∨ op = 2) (hpf : ∀ q, (pf q).1 = true → gOk (pf q).2.2 D) (h : (gPT pf t n z op p).1 = true) : gOk (gPT pf t n z op p).2.2 (D + 1) := by
  unfold gPT at h ⊢
  by_cases h1 : (pf p).1 = true
  · rw [if_pos h1] at h ⊢
    exact gTl_ok hop hpf _ _ _ (gOk_up (hpf p h1) (by omega)) h
  · rw [if_neg h1] at h
    cases h
theorem gPF_ok {t : Nat → Int32} {n : Nat} : ∀ (d p : Nat), (gPF t n d p).1 = true → gOk (gPF t n d p).2.2 (2 * d + 1)
  | 0, p => fun h => gTe_ok h
  | d + 1, p => by
    intro h
    have hF := gPF_ok (t := t) (n := n) d
    have hE : ∀ q, (gPE (gPF t n d) t n q).1 = true → gOk (gPE (gPF t n d) t n q).2.2 (2 * d + 1 + 1 + 1) := fun q hq => gPT_ok (Or.inr rfl) (fun q hq => gPT_ok (Or.inl rfl) hF hq) hq
    rw [gPF.eq_2] at h ⊢
    by_cases h1 : p < n ∧ t p = 33
    · rw [if_pos h1] at h ⊢
      by_cases h2 : (gPF t n d (p + 1)).1 = true
      · rw [if_pos h2]
        intro rest hh hle
        show gRun ((_ ++ [0]) ++ rest) hh = _
        rw [List.append_assoc, hF _ h2 _ _ (by omega)]
        exact gRun_not (by omega)
      · rw [if_neg h2] at h
        cases h
    · rw [if_neg h1] at h ⊢
      by_cases h2 : p < n ∧ t p = 40
      · rw [if_pos h2] at h ⊢
        by_cases h3 : (gPE (gPF t n d) t n (p + 1)).1 = true
        · rw [if_pos h3] at h ⊢
          by_cases h4 : (gPE (gPF t n d) t n (p + 1)).2.1 < n ∧ t (gPE (gPF t n d) t n (p + 1)).2.1 = 41
          · rw [if_pos h4]
            exact gOk_up (hE _ h3) (by omega)
          · rw [if_neg h4] at h
            cases h
        · rw [if_neg h3] at h
          cases h
      · rw [if_neg h2] at h ⊢
        exact gOk_up (gTe_ok h) (by omega)
theorem gE_ok {t : Nat → Int32} {n p : Nat} (h : (gE t n 4 p).1 = true) : gRun (gE t n 4 p).2.2 0 = true := by
  have e : gOk (gE t n 4 p).2.2 (9 + 1 + 1) := gPT_ok (Or.inr rfl) (fun q hq => gPT_ok (Or.inl rfl) (fun r hr => gPF_ok 4 r hr) hq) h
  have := e [] 0 (by decide)
  rw [List.append_nil] at this
  rw [this]
  rfl
theorem gClk_le (t : Nat → Int32) (n p : Nat) : gClk t n p ≤ 3 := by
  unfold gClk
  split
  · split <;> omega
  · split <;> omega
theorem gKl_ok {t : Nat → Int32} {n p : Nat} (h : (gKl t n p).1 = true) : gClk t n p < 3 ∧ (gKl t n p).2.2.1 < 100 ∧ (gClk t n p < 2 → gRun (gKl t n p).2.2.2 0 = true) := by
  have hk := gClk_le t n p
  unfold gKl at h ⊢
  by_cases h3 : gClk t n p = 3
  · rw [if_pos h3] at h
    cases h
  · rw [if_neg h3] at h ⊢
    refine ⟨by omega, ?_⟩
    generalize gClk t n p = w at *
    unfold gClw at h ⊢
    by_cases h1 : (gAll t n (5 + w) (gLen.getD (5 + w) 0) 0 p).1 = true
    · rw [if_pos h1] at h ⊢
      by_cases h2 : (gNum t n (gAll t n (5 + w) (gLen.getD (5 + w) 0) 0 p).2).1 = true
      · rw [if_pos h2] at h ⊢
        by_cases hw : w = 2
        · rw [if_pos hw]
          exact ⟨gNum_v, fun q => absurd q (by omega)⟩
        · rw [if_neg hw] at h ⊢
          by_cases h4 : (gNum t n (gAll t n (5 + w) (gLen.getD (5 + w) 0) 0 p).2).2.1 < n ∧ t (gNum t n (gAll t n (5 + w) (gLen.getD (5 + w) 0) 0 p).2).2.1 = 32
          · rw [if_pos h4] at h ⊢
            exact ⟨gNum_v, fun _ => gE_ok h⟩
          · rw [if_neg h4] at h
            cases h
      · rw [if_neg h2] at h
        cases h
    · rw [if_neg h1] at h
      cases h
/-- the clauses read so far, as the reference keeps them from its place b0 on, its tokens below c -/
def gAcc (acc : List (Nat × Nat × List Nat)) (b0 c : Nat) (f : gPS) (E : Nat → Int32) : Prop := ∀ i, i < acc.length → (acc.getD i (0, 0, [])).1 < 3 ∧ f 2 (b0 + i) = nI (acc.getD i (0, 0, [])).1 ∧ f 3 (b0 + i) = nI (acc.getD i (0, 0, [])).2.1 ∧ (acc.getD i (0, 0, [])).2.1 < 100 ∧ ∃ bg, f 4 (b0 + i) = nI bg ∧ f 5 (b0 + i) = nI (acc.getD i (0, 0, [])).2.2.length ∧ bg + (acc.getD i (0, 0, [])).2.2.length ≤ c ∧ (∀ q, q < (acc.getD i (0, 0, [])).2.2.length → E (bg + q) = nI ((acc.getD i (0, 0, [])).2.2.getD q 0)) ∧ ((acc.getD i (0, 0, [])).1 < 2 → gRun (acc.getD i (0, 0, [])).2.2 0 = true)
theorem gAcc_0 {b0 c : Nat} {f : gPS} {E : Nat → Int32} : gAcc [] b0 c f E := fun i h => absurd h (Nat.not_lt_zero _)
theorem gAcc_s {acc : List (Nat × Nat × List Nat)} {b0 c : Nat} {f f9 : gPS} {E E9 : Nat → Int32} {kd nm : Nat} {K : List Nat} (h : gAcc acc b0 c f E) (hf : gFr (b0 + acc.length) f f9) (hE : gCd E c E9 K) (h3 : kd < 3) (hn : nm < 100) (hr : kd < 2 → gRun K 0 = true)
    (e : f9 2 (b0 + acc.length) = nI kd ∧ f9 3 (b0 + acc.length) = nI nm ∧ f9 4 (b0 + acc.length) = nI c ∧ f9 5 (b0 + acc.length) = nI K.length) : gAcc (acc ++ [(kd, nm, K)]) b0 (c + K.length) f9 E9 := by
  intro i hi
  rw [List.length_append] at hi
  by_cases z : i < acc.length
  · have eg : (acc ++ [(kd, nm, K)]).getD i (0, 0, []) = acc.getD i (0, 0, []) := by rw [List.getD_eq_getElem?_getD, List.getD_eq_getElem?_getD, List.getElem?_append_left z]
    rw [eg]
    obtain ⟨a1, a2, a3, a3', bg, a4, a5, a6, a7, a8⟩ := h i z
    have ne : ∀ a, f9 a (b0 + i) = f a (b0 + i) := fun a => hf a _ (fun q => by have := q.1; omega)
    exact ⟨a1, (ne 2).trans a2, (ne 3).trans a3, a3', bg, (ne 4).trans a4, (ne 5).trans a5, by omega, fun q hq => (hE.1 _ (by omega)).trans (a7 q hq), a8⟩
  · have ei : i = acc.length := by
      simp only [List.length_cons, List.length_nil] at hi
      omega
    subst ei
    have eg : (acc ++ [(kd, nm, K)]).getD acc.length (0, 0, []) = (kd, nm, K) := by
      rw [List.getD_eq_getElem?_getD, List.getElem?_append_right (Nat.le_refl _), Nat.sub_self]
      rfl
    rw [eg]
    exact ⟨h3, e.1, e.2.1, hn, c, e.2.2.1, e.2.2.2, Nat.le_refl _, hE.2, hr⟩
/-- all but what is told of the loft h stays -/
def gFq (h : Nat) (f f9 : gPS) : Prop := ∀ a k, ¬ (2 ≤ a ∧ a ≤ 5 ∧ 10 * h ≤ k ∧ k < 10 * h + 10) → ¬ (a = 1 ∧ k = h) → f9 a k = f a k
theorem gFq_0 {h : Nat} {f : gPS} : gFq h f f := fun _ _ _ _ => rfl
theorem gFq_r {h m : Nat} {f f9 f8 : gPS} (q : gFq h f f9) (r : gFr (10 * h + m) f9 f8) (hm : m < 10) : gFq h f f8 := fun a k h1 h2 => (r a k (fun z => h1 ⟨z.2.1, z.2.2, by omega, by omega⟩)).trans (q a k h1 h2)
theorem gFq_1 {h : Nat} {f f9 : gPS} {x : Int32} (q : gFq h f f9) : gFq h f (gU f9 1 h x) := by
  intro a k h1 h2
  by_cases e : a = 1
  · subst e
    rw [gU_o (fun z => h2 ⟨rfl, z⟩)]
    exact q 1 k h1 h2
  · rw [gU_ne e]
    exact q a k h1 h2
theorem gAcc_1 {acc : List (Nat × Nat × List Nat)} {b0 c k : Nat} {f : gPS} {E : Nat → Int32} {x : Int32} (h : gAcc acc b0 c f E) : gAcc acc b0 c (gU f 1 k x) E := by
  intro i hi
  have q := h i hi
  rw [gU_ne (by decide), gU_ne (by decide), gU_ne (by decide), gU_ne (by decide)]
  exact q
