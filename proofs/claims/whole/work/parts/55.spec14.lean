/-! A CLAUSE AS THE CLASS TAKES IT -/
/-- from a clause's word on -/
def gKw (t : Nat → Int32) (n : Nat) (W : Bool × Nat × Nat) : Bool × Nat × Nat × List Nat := if W.1 = true then (if (gNum t n W.2.1).1 = true then (if W.2.2 = 2 then (true, (gNum t n W.2.1).2.1, (gNum t n W.2.1).2.2, []) else if (gNum t n W.2.1).2.1 < n ∧ t (gNum t n W.2.1).2.1 = 32 then ((gE t n 4 ((gNum t n W.2.1).2.1 + 1)).1, (gE t n 4 ((gNum t n W.2.1).2.1 + 1)).2.1, (gNum t n W.2.1).2.2, (gE t n 4 ((gNum t n W.2.1).2.1 + 1)).2.2) else (false, (gNum t n W.2.1).2.1, 0, [])) else (false, (gNum t n W.2.1).2.1, 0, [])) else (false, W.2.1, 0, [])
theorem gKw_0 {t : Nat → Int32} {n q k : Nat} {b : Bool} (h : ¬ b = true) : gKw t n (b, q, k) = (false, q, 0, []) := by
  unfold gKw
  exact if_neg h
theorem gKw_1 {t : Nat → Int32} {n q k : Nat} {b : Bool} (h : b = true) (h1 : ¬ (gNum t n q).1 = true) : gKw t n (b, q, k) = (false, (gNum t n q).2.1, 0, []) := by
  unfold gKw
  exact (if_pos h).trans (if_neg h1)
theorem gKw_2 {t : Nat → Int32} {n q : Nat} {b : Bool} (h : b = true) (h1 : (gNum t n q).1 = true) : gKw t n (b, q, 2) = (true, (gNum t n q).2.1, (gNum t n q).2.2, []) := by
  unfold gKw
  exact (if_pos h).trans ((if_pos h1).trans (if_pos rfl))
theorem gKw_3 {t : Nat → Int32} {n q k : Nat} {b : Bool} (h : b = true) (h1 : (gNum t n q).1 = true) (hk : ¬ k = 2) (h2 : ¬ ((gNum t n q).2.1 < n ∧ t (gNum t n q).2.1 = 32)) : gKw t n (b, q, k) = (false, (gNum t n q).2.1, 0, []) := by
  unfold gKw
  exact (if_pos h).trans ((if_pos h1).trans ((if_neg hk).trans (if_neg h2)))
theorem gKw_4 {t : Nat → Int32} {n q k : Nat} {b : Bool} (h : b = true) (h1 : (gNum t n q).1 = true) (hk : ¬ k = 2) (h2 : (gNum t n q).2.1 < n ∧ t (gNum t n q).2.1 = 32) : gKw t n (b, q, k) = ((gE t n 4 ((gNum t n q).2.1 + 1)).1, (gE t n 4 ((gNum t n q).2.1 + 1)).2.1, (gNum t n q).2.2, (gE t n 4 ((gNum t n q).2.1 + 1)).2.2) := by
  unfold gKw
  exact (if_pos h).trans ((if_pos h1).trans ((if_neg hk).trans (if_pos h2)))
theorem gKl_w (t : Nat → Int32) (n p : Nat) : gKl t n p = gKw t n (gWd t n p) ∧ ((gWd t n p).1 = true → gClk t n p = (gWd t n p).2.2) := by
  rcases gWd_e t n p with ⟨h3, hW⟩ | ⟨hk, h1, h2, h3⟩
  · refine ⟨?_, fun z => ?_⟩
    · rw [hW, gKw_0 (by decide)]
      unfold gKl
      rw [if_pos h3]
    · rw [hW] at z
      exact absurd (show false = true from z) (by decide)
  · refine ⟨?_, fun z => (h3 z).symm⟩
    unfold gKl
    rw [if_neg (by omega)]
    unfold gClw
    generalize gWd t n p = W at *
    obtain ⟨b, q, k⟩ := W
    simp only at h1 h2 h3
    rw [← h1, ← h2]
    by_cases hb : b = true
    · have hk2 := h3 hb
      rw [← hk2, if_pos hb]
      unfold gKw
      rw [if_pos hb]
    · rw [if_neg hb, gKw_0 hb]
def gSgn (k m : Nat) : Int32 := if k = 0 then nI m else -(nI m)
/-- what the class has done behind a clause that is one -/
def gCk (t : Nat → Int32) (n p c wn : Nat) (f : gPS) (rs : Int32) (E : Nat → Int32) (f9 : gPS) (c9 wn9 : Nat) (rs9 : Int32) (E9 : Nat → Int32) : Prop := gCs E c E9 (gKl t n p).2.2.2 ∧ c9 = c + (gKl t n p).2.2.2.length ∧ ((gClk t n p = 2 ∧ wn9 = wn ∧ rs9 = nI (gKl t n p).2.2.1 ∧ f9 = f ∧ (gKl t n p).2.2.2 = []) ∨ (gClk t n p < 2 ∧ wn9 = wn + 1 ∧ rs9 = rs ∧ f9 = gU (gU f 2 wn (gSgn (gClk t n p) (gKl t n p).2.2.1)) 3 (wn + 1) (nI c9)))
theorem gCk_r {t : Nat → Int32} {n p c wn q m : Nat} {f : gPS} {rs : Int32} {E : Nat → Int32} (hK : gKl t n p = (true, q, m, [])) (hk : gClk t n p = 2) : gCk t n p c wn f rs E f c wn (nI m) E := by
  unfold gCk
  rw [hK]
  exact ⟨gCs_0, rfl, Or.inl ⟨hk, rfl, rfl, rfl, rfl⟩⟩
theorem gCk_g {t : Nat → Int32} {n p c wn q m w : Nat} {b : Bool} {K : List Nat} {f : gPS} {rs x : Int32} {E E9 : Nat → Int32} (hK : gKl t n p = (b, q, m, K)) (hk : gClk t n p = w) (hw : w < 2) (hE : gCs E c E9 K) (hx : x = gSgn w m) : gCk t n p c wn f rs E (gU (gU f 2 wn x) 3 (wn + 1) (nI (c + K.length))) (c + K.length) (wn + 1) rs E9 := by
  unfold gCk
  rw [hK, hk, hx]
  exact ⟨hE, rfl, Or.inr ⟨hw, rfl, rfl, rfl⟩⟩
/-! the text beyond its bytes does not matter -/
theorem gCg_k {t T : Nat → Int32} {n : Nat} (h : ∀ j, j < n → T j = t j) (p : Nat) (z : Int32) : (p < n ∧ T p = z) = (p < n ∧ t p = z) := propext ⟨fun q => ⟨q.1, (h p q.1).symm.trans q.2⟩, fun q => ⟨q.1, (h p q.1).trans q.2⟩⟩
theorem gCg_dg {t T : Nat → Int32} {n : Nat} (h : ∀ j, j < n → T j = t j) (p : Nat) : gDg T n p = gDg t n p := propext ⟨fun q => ⟨q.1, by rw [← h p q.1]; exact q.2⟩, fun q => ⟨q.1, by rw [h p q.1]; exact q.2⟩⟩
theorem gCg_num {t T : Nat → Int32} {n : Nat} (h : ∀ j, j < n → T j = t j) (p : Nat) : gNum T n p = gNum t n p := by
  unfold gNum
  simp only [gCg_dg h]
  split
  · rename_i h1
    have e1 : gDv T p = gDv t p := by unfold gDv; rw [h p h1.1]
    rw [e1]
    split
    · rename_i h2
      have e2 : gDv T (p + 1) = gDv t (p + 1) := by unfold gDv; rw [h (p + 1) h2.1]
      rw [e2]
    · rfl
  · rfl
theorem gCg_all {t T : Nat → Int32} {n : Nat} (h : ∀ j, j < n → T j = t j) (i : Nat) : ∀ d k p : Nat, gAll T n i d k p = gAll t n i d k p
  | 0, _, _ => rfl
  | d + 1, k, p => by rw [gAll, gAll]; simp only [gCg_k h, gCg_all h i d]
theorem gCg_one {t T : Nat → Int32} {n : Nat} (h : ∀ j, j < n → T j = t j) (i p : Nat) : gOne T n i p = gOne t n i p := by
  unfold gOne
  by_cases hp : p < n
  · rw [h p hp]
  · rw [if_neg (fun z => hp z.1), if_neg (fun z => hp z.1)]
theorem gCg_te {t T : Nat → Int32} {n : Nat} (h : ∀ j, j < n → T j = t j) (p : Nat) : gTe T n p = gTe t n p := by
  unfold gTe
  simp only [gCg_one h, gCg_num h]
theorem gCg_tl {t T : Nat → Int32} {n : Nat} (h : ∀ j, j < n → T j = t j) {pf pg : Nat → Bool × Nat × List Nat} (hf : ∀ p, pf p = pg p) (z : Int32) (op : Nat) : ∀ (m a : Nat) (K : List Nat), gTl pf T n z op m a K = gTl pg t n z op m a K
  | 0, _, _ => rfl
  | m + 1, a, K => by rw [gTl, gTl]; simp only [gCg_k h, hf, gCg_tl h hf z op m]
theorem gCg_pt {t T : Nat → Int32} {n : Nat} (h : ∀ j, j < n → T j = t j) {pf pg : Nat → Bool × Nat × List Nat} (hf : ∀ p, pf p = pg p) (z : Int32) (op p : Nat) : gPT pf T n z op p = gPT pg t n z op p := by
  unfold gPT
  simp only [hf, gCg_tl h hf]
theorem gCg_pe {t T : Nat → Int32} {n : Nat} (h : ∀ j, j < n → T j = t j) {pf pg : Nat → Bool × Nat × List Nat} (hf : ∀ p, pf p = pg p) (p : Nat) : gPE pf T n p = gPE pg t n p := gCg_pt h (fun q => gCg_pt h hf 38 1 q) 124 2 p
theorem gCg_pf {t T : Nat → Int32} {n : Nat} (h : ∀ j, j < n → T j = t j) : ∀ d p : Nat, gPF T n d p = gPF t n d p
  | 0, p => gCg_te h p
  | d + 1, p => by rw [gPF.eq_2, gPF.eq_2]; simp only [gCg_k h, gCg_pf h d, gCg_pe h (gCg_pf h d), gCg_te h]
theorem gCg_e {t T : Nat → Int32} {n : Nat} (h : ∀ j, j < n → T j = t j) (d p : Nat) : gE T n d p = gE t n d p := gCg_pe h (gCg_pf h d) p
theorem gCg_clk {t T : Nat → Int32} {n : Nat} (h : ∀ j, j < n → T j = t j) (p : Nat) : gClk T n p = gClk t n p := by
  unfold gClk
  simp only [gCg_k h]
theorem gCg_kl {t T : Nat → Int32} {n : Nat} (h : ∀ j, j < n → T j = t j) (p : Nat) : gKl T n p = gKl t n p := by
  unfold gKl gClw
  simp only [gCg_clk h, gCg_all h, gCg_num h, gCg_k h, gCg_e h]
theorem gCg_lo {t T : Nat → Int32} {n : Nat} (h : ∀ j, j < n → T j = t j) : ∀ (d p : Nat) (acc : List (Nat × Nat × List Nat)), gLo T n d p acc = gLo t n d p acc
  | 0, _, _ => rfl
  | d + 1, p, acc => by rw [gLo, gLo]; simp only [gCg_kl h, gCg_clk h, gCg_k h, gCg_lo h d]
theorem gCg_tx {t T : Nat → Int32} {n : Nat} (h : ∀ j, j < n → T j = t j) (ht : gTx t n) : gTx T n := ⟨ht.1, fun j hj => by rw [h j hj]; exact ht.2 j hj⟩
/-! THE CLASS'S LOFT -/
/-- the clauses with a weight -/
def gWg (acc : List (Nat × Nat × List Nat)) : List (Nat × Nat × List Nat) := acc.filter fun x => decide (x.1 < 2)
def gOf (B : List (Nat × Nat × List Nat)) : Nat → Nat
  | 0 => 0
  | i + 1 => gOf B i + (B.getD i (0, 0, [])).2.2.length
/-- the clauses read so far, as the class keeps them, its steps below c -/
def gCac (acc : List (Nat × Nat × List Nat)) (wn c : Nat) (f : gPS) (E : Nat → Int32) : Prop := wn = (gWg acc).length ∧ c = gOf (gWg acc) wn ∧ f 3 0 = 0 ∧ ∀ i, i < wn → f 2 i = gSgn ((gWg acc).getD i (0, 0, [])).1 ((gWg acc).getD i (0, 0, [])).2.1 ∧ f 3 (i + 1) = nI (gOf (gWg acc) (i + 1)) ∧ (∀ q, q < ((gWg acc).getD i (0, 0, [])).2.2.length → E (gOf (gWg acc) i + q) = gStp (((gWg acc).getD i (0, 0, [])).2.2.getD q 0)) ∧ gRun ((gWg acc).getD i (0, 0, [])).2.2 0 = true
theorem gCac_0 {f : gPS} {E : Nat → Int32} (h : f 3 0 = 0) : gCac [] 0 0 f E := ⟨rfl, rfl, h, fun i hi => absurd hi (Nat.not_lt_zero _)⟩
theorem gOf_a {B C : List (Nat × Nat × List Nat)} : ∀ i : Nat, i ≤ B.length → gOf (B ++ C) i = gOf B i
  | 0, _ => rfl
  | i + 1, h => by
    rw [gOf, gOf, gOf_a i (by omega)]
    congr 4
    rw [List.getD_eq_getElem?_getD, List.getD_eq_getElem?_getD, List.getElem?_append_left (by omega)]
theorem gOf_le {B : List (Nat × Nat × List Nat)} : ∀ {i j : Nat}, i ≤ j → gOf B i ≤ gOf B j := by
  intro i j h
  induction h with
  | refl => exact Nat.le_refl _
  | step h ih => exact Nat.le_trans ih (Nat.le_add_right _ _)
theorem gWg_2 {acc : List (Nat × Nat × List Nat)} {k m : Nat} {K : List Nat} (h : k = 2) : gWg (acc ++ [(k, m, K)]) = gWg acc := by
  subst h
  simp [gWg, List.filter_append]
theorem gWg_1 {acc : List (Nat × Nat × List Nat)} {k m : Nat} {K : List Nat} (h : k < 2) : gWg (acc ++ [(k, m, K)]) = gWg acc ++ [(k, m, K)] := by
  simp [gWg, List.filter_append, h]
theorem gGd_l {B : List (Nat × Nat × List Nat)} {x : Nat × Nat × List Nat} : (B ++ [x]).getD B.length (0, 0, []) = x := by
  rw [List.getD_eq_getElem?_getD, List.getElem?_append_right (Nat.le_refl _), Nat.sub_self]
  rfl
theorem gGd_b {B : List (Nat × Nat × List Nat)} {x : Nat × Nat × List Nat} {i : Nat} (h : i < B.length) : (B ++ [x]).getD i (0, 0, []) = B.getD i (0, 0, []) := by
  rw [List.getD_eq_getElem?_getD, List.getD_eq_getElem?_getD, List.getElem?_append_left h]
theorem gCac_s {t : Nat → Int32} {n p c wn c9 wn9 : Nat} {acc : List (Nat × Nat × List Nat)} {f f9 : gPS} {rs rs9 : Int32} {E E9 : Nat → Int32} (h : gCac acc wn c f E) (hk : gCk t n p c wn f rs E f9 c9 wn9 rs9 E9) (hr : gClk t n p < 2 → gRun (gKl t n p).2.2.2 0 = true) : gCac (acc ++ [(gClk t n p, (gKl t n p).2.2.1, (gKl t n p).2.2.2)]) wn9 c9 f9 E9 := by
  obtain ⟨h1, h2, h3, h4⟩ := h
  obtain ⟨k1, k2, k3⟩ := hk
  generalize gKl t n p = K at *
  generalize gClk t n p = w at *
  rcases k3 with ⟨e1, e2, e3, e4, e5⟩ | ⟨e1, e2, e3, e4⟩
  · subst e2; subst e4
    have eg : gWg (acc ++ [(w, K.2.2.1, K.2.2.2)]) = gWg acc := gWg_2 e1
    rw [e5] at k1 k2
    unfold gCac
    rw [eg]
    refine ⟨h1, by rw [k2]; exact h2, h3, fun i hi => ?_⟩
    obtain ⟨a1, a2, a3, a4⟩ := h4 i hi
    refine ⟨a1, a2, fun q hq => ?_, a4⟩
    rw [k1.1 _ ?_]
    · exact a3 q hq
    · have := gOf_le (B := gWg acc) (i := i + 1) (j := wn9) (by omega)
      rw [gOf] at this
      omega
  · have eg : gWg (acc ++ [(w, K.2.2.1, K.2.2.2)]) = gWg acc ++ [(w, K.2.2.1, K.2.2.2)] := gWg_1 e1
    have hl : (gWg acc ++ [(w, K.2.2.1, K.2.2.2)]).length = wn + 1 := by rw [List.length_append, ← h1]; rfl
    have hof : gOf (gWg acc ++ [(w, K.2.2.1, K.2.2.2)]) (wn + 1) = c9 := by
      rw [gOf, gOf_a wn (by omega), ← h2, k2]
      congr 1
      rw [h1, gGd_l]
    unfold gCac
    rw [eg, e2]
    refine ⟨hl.symm, hof.symm, by rw [e4, gU_o (by omega), gU_ne (by decide)]; exact h3, fun i hi => ?_⟩
    by_cases z : i = wn
    · subst z
      have ez : (gWg acc ++ [(w, K.2.2.1, K.2.2.2)]).getD i (0, 0, []) = (w, K.2.2.1, K.2.2.2) := by rw [h1, gGd_l]
      rw [ez, hof]
      refine ⟨by rw [e4, gU_ne (by decide), gU_e], by rw [e4, gU_e], fun q hq => ?_, hr e1⟩
      rw [gOf_a i (by omega), ← h2]
      exact k1.2 q hq
    · have ez : (gWg acc ++ [(w, K.2.2.1, K.2.2.2)]).getD i (0, 0, []) = (gWg acc).getD i (0, 0, []) := gGd_b (by omega)
      rw [ez, gOf_a i (by omega), gOf_a (i + 1) (by omega)]
      obtain ⟨a1, a2, a3, a4⟩ := h4 i (by omega)
      refine ⟨by rw [e4, gU_ne (by decide), gU_o z]; exact a1, by rw [e4, gU_o (by omega), gU_ne (by decide)]; exact a2, fun q hq => ?_, a4⟩
      rw [k1.1 _ ?_]
      · exact a3 q hq
      · have := gOf_le (B := gWg acc) (i := i + 1) (j := wn) (by omega)
        rw [gOf] at this
        omega
/-- REST behind one clause more -/
theorem gRs_s {acc : List (Nat × Nat × List Nat)} {x : Nat × Nat × List Nat} : gRs (gLof (acc ++ [x])) (acc.length + 1) = if x.1 = 2 then nI x.2.1 else gRs (gLof acc) acc.length := by
  have h : ∀ k, k ≤ acc.length → gRs (gLof (acc ++ [x])) k = gRs (gLof acc) k := by
    intro k hk
    induction k with
    | zero => rfl
    | succ k ih =>
      rw [gRs, gRs, ih (by omega)]
      show (if ((acc ++ [x]).getD k (0, 0, [])).1 = 2 then nI ((acc ++ [x]).getD k (0, 0, [])).2.1 else _) = (if (acc.getD k (0, 0, [])).1 = 2 then nI (acc.getD k (0, 0, [])).2.1 else _)
      rw [gGd_b (by omega)]
  rw [gRs, h _ (Nat.le_refl _)]
  show (if ((acc ++ [x]).getD acc.length (0, 0, [])).1 = 2 then nI ((acc ++ [x]).getD acc.length (0, 0, [])).2.1 else _) = _
  rw [gGd_l]
/-- a Loft holds these clauses -/
def gClo (f : gPS) (acc : List (Nat × Nat × List Nat)) : Prop := acc.length ≤ 10 ∧ ∃ wn c : Nat, wn ≤ acc.length ∧ c ≤ 100 ∧ f 5 3 = nI wn ∧ f 5 4 = gRs (gLof acc) acc.length ∧ gCac acc wn c f (f 1)
