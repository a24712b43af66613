/-! A LOFT READ BY THE CLASS; ITS STEPS RUN -/
/-- a row of bytes: THE TEXT -/
abbrev gLB (G : gW) (μ : gPS) : List va_E := [.inl (G.2.1 1, 100, .inl (μ 0))]
theorem gCk_rs {t : Nat → Int32} {n p c wn c9 wn9 : Nat} {acc : List (Nat × Nat × List Nat)} {f f9 : gPS} {rs rs9 : Int32} {E E9 : Nat → Int32} (hk : gCk t n p c wn f rs E f9 c9 wn9 rs9 E9) (hrs : rs = gRs (gLof acc) acc.length) : rs9 = gRs (gLof (acc ++ [(gClk t n p, (gKl t n p).2.2.1, (gKl t n p).2.2.2)])) (acc.length + 1) := by
  rw [gRs_s]
  rcases hk.2.2 with ⟨e1, e2, e3, e4, e5⟩ | ⟨e1, e2, e3, e4⟩
  · rw [if_pos e1, e3]
  · rw [if_neg (show ¬ gClk t n p = 2 by omega), e3, hrs]
theorem gCk_wn {t : Nat → Int32} {n p c wn c9 wn9 : Nat} {f f9 : gPS} {rs rs9 : Int32} {E E9 : Nat → Int32} (hk : gCk t n p c wn f rs E f9 c9 wn9 rs9 E9) : wn9 ≤ wn + 1 := by
  rcases hk.2.2 with h | h
  · rw [h.2.1]; omega
  · rw [h.2.1]; omega
theorem gFtb {t : Nat → Int32} {n : Nat} (h : gTx t n) : ∀ q, q < n → fits .byte (.int (t (0 + q))) = true := by
  intro q hq
  rw [Nat.zero_add]
  obtain ⟨x, hx, e⟩ := h.2 q hq
  rw [e]
  have : ∀ y : Nat, y < 128 → fits .byte (.int (nI y)) = true := by decide
  exact this x hx
/-! bits -/
def gBt (x : Int32) (st : List Bool) : Prop := ∀ j b, st[j]? = some b → x.toBitVec.getLsbD j = b
theorem gBt_c1 : ∀ j : Nat, j < 32 → (1 : Int32).toBitVec.getLsbD j = decide (j = 0) := by decide
theorem gBt_c2 : ∀ j : Nat, j < 32 → (-2 : Int32).toBitVec.getLsbD j = !decide (j = 0) := by decide
theorem gBt_sl (x : Int32) : (x <<< ((1 : Int32) &&& 31)).toBitVec = x.toBitVec <<< 1 := rfl
theorem gBt_sr (x : Int32) : (x >>> ((1 : Int32) &&& 31)).toBitVec = x.toBitVec.sshiftRight 1 := rfl
theorem gBt_n (x : Int32) : gBt x [] := fun j b h => by simp at h
theorem gBt_1 {x : Int32} {st : List Bool} (h : gBt x st) (hl : st.length ≤ 31) : gBt (x <<< ((1 : Int32) &&& 31) ||| 1) (true :: st) := by
  intro j b hj
  rw [Int32.toBitVec_or, BitVec.getLsbD_or, gBt_sl, BitVec.getLsbD_shiftLeft]
  cases j with
  | zero => simp at hj; subst hj; simp [gBt_c1 0 (by decide)]
  | succ j =>
    have hjl : j < st.length := by
      simp at hj
      exact (List.getElem?_eq_some_iff.mp hj).1
    simp at hj
    rw [gBt_c1 (j + 1) (by omega)]
    simp [h j b hj, show j + 1 < 32 by omega]
theorem gBt_0 {x : Int32} {st : List Bool} (h : gBt x st) (hl : st.length ≤ 31) : gBt (x <<< ((1 : Int32) &&& 31) ||| 0) (false :: st) := by
  intro j b hj
  rw [Int32.toBitVec_or, BitVec.getLsbD_or, gBt_sl, BitVec.getLsbD_shiftLeft]
  cases j with
  | zero => simp at hj; subst hj; simp
  | succ j =>
    have hjl : j < st.length := by
      simp at hj
      exact (List.getElem?_eq_some_iff.mp hj).1
    simp at hj
    simp [h j b hj, show j + 1 < 32 by omega]
theorem gBt_x {x : Int32} {a : Bool} {st : List Bool} (h : gBt x (a :: st)) (hl : st.length ≤ 30) : gBt (x ^^^ 1) ((!a) :: st) := by
  intro j b hj
  rw [Int32.toBitVec_xor, BitVec.getLsbD_xor]
  cases j with
  | zero =>
    have hb : (!a) = b := Option.some.inj hj
    rw [gBt_c1 0 (by decide), h 0 a rfl, ← hb]
    cases a <;> rfl
  | succ j =>
    have hj2 : st[j]? = some b := hj
    have hjl : j < st.length := (List.getElem?_eq_some_iff.mp hj2).1
    rw [gBt_c1 (j + 1) (by omega), h (j + 1) b hj2]
    simp
theorem gBt_a {x : Int32} {a d : Bool} {st : List Bool} (h : gBt x (a :: d :: st)) (hl : st.length ≤ 29) : gBt ((x >>> ((1 : Int32) &&& 31)) &&& (x ||| (-2))) ((d && a) :: st) := by
  intro j b hj
  rw [Int32.toBitVec_and, BitVec.getLsbD_and, Int32.toBitVec_or, BitVec.getLsbD_or, gBt_sr, BitVec.getLsbD_sshiftRight]
  cases j with
  | zero =>
    have hb : (d && a) = b := Option.some.inj hj
    rw [gBt_c2 0 (by decide), h 0 a rfl, if_pos (by decide), show 1 + 0 = 1 from rfl, h 1 d rfl, ← hb]
    cases a <;> cases d <;> rfl
  | succ j =>
    have hj2 : st[j]? = some b := hj
    have hjl : j < st.length := (List.getElem?_eq_some_iff.mp hj2).1
    rw [gBt_c2 (j + 1) (by omega), if_pos (by omega), show 1 + (j + 1) = j + 2 by omega, h (j + 2) b hj2, decide_eq_false (show ¬ 32 ≤ j + 1 by omega), decide_eq_false (show ¬ j + 1 = 0 by omega)]
    simp
theorem gBt_o {x : Int32} {a d : Bool} {st : List Bool} (h : gBt x (a :: d :: st)) (hl : st.length ≤ 29) : gBt ((x >>> ((1 : Int32) &&& 31)) ||| (x &&& 1)) ((d || a) :: st) := by
  intro j b hj
  rw [Int32.toBitVec_or, BitVec.getLsbD_or, Int32.toBitVec_and, BitVec.getLsbD_and, gBt_sr, BitVec.getLsbD_sshiftRight]
  cases j with
  | zero =>
    have hb : (d || a) = b := Option.some.inj hj
    rw [gBt_c1 0 (by decide), h 0 a rfl, if_pos (by decide), show 1 + 0 = 1 from rfl, h 1 d rfl, ← hb]
    cases a <;> cases d <;> rfl
  | succ j =>
    have hj2 : st[j]? = some b := hj
    have hjl : j < st.length := (List.getElem?_eq_some_iff.mp hj2).1
    rw [gBt_c1 (j + 1) (by omega), if_pos (by omega), show 1 + (j + 1) = j + 2 by omega, h (j + 2) b hj2, decide_eq_false (show ¬ 32 ≤ j + 1 by omega), decide_eq_false (show ¬ j + 1 = 0 by omega)]
    simp
theorem gBt_e {x : Int32} {a : Bool} (h : gBt x [a]) : (x &&& 1 = 0) ↔ ¬ a = true := by
  have h0 := h 0 a (by simp)
  have e : x &&& 1 = if a = true then 1 else 0 := by
    apply Int32.toBitVec_inj.mp
    apply BitVec.eq_of_getLsbD_eq
    intro i hi
    rw [Int32.toBitVec_and, BitVec.getLsbD_and, gBt_c1 i hi]
    cases i with
    | zero =>
      rw [h0]
      cases a <;> simp <;> decide
    | succ i =>
      cases a
      · simp
      · rw [if_pos rfl, gBt_c1 (i + 1) hi]
        simp
  rw [e]
  cases a <;> simp
/-- what the class's weights make together, of the first k -/
def gGn (B : List (Nat × Nat × List Nat)) (nu : Nat → Int32) : Nat → Int32
  | 0 => 0
  | i + 1 => if gEvT nu (B.getD i (0, 0, [])).2.2 = true then gGn B nu i + gSgn (B.getD i (0, 0, [])).1 (B.getD i (0, 0, [])).2.1 else gGn B nu i
theorem gGn_a {B C : List (Nat × Nat × List Nat)} {nu : Nat → Int32} : ∀ i : Nat, i ≤ B.length → gGn (B ++ C) nu i = gGn B nu i
  | 0, _ => rfl
  | i + 1, h => by
    have e : (B ++ C).getD i (0, 0, []) = B.getD i (0, 0, []) := by rw [List.getD_eq_getElem?_getD, List.getD_eq_getElem?_getD, List.getElem?_append_left (by omega)]
    rw [gGn, gGn, gGn_a i (by omega), e]
theorem gGs_a {acc : List (Nat × Nat × List Nat)} {x : Nat × Nat × List Nat} {nu : Nat → Int32} {a : Int32} : ∀ i : Nat, i ≤ acc.length → gGs (gLof (acc ++ [x])) nu a i = gGs (gLof acc) nu a i
  | 0, _ => rfl
  | i + 1, h => by
    rw [gGs, gGs, gGs_a i (by omega)]
    show (if ((acc ++ [x]).getD i (0, 0, [])).1 < 2 then (if gEvT nu ((acc ++ [x]).getD i (0, 0, [])).2.2 = true then (if ((acc ++ [x]).getD i (0, 0, [])).1 = 0 then _ + nI ((acc ++ [x]).getD i (0, 0, [])).2.1 else _ + (-nI ((acc ++ [x]).getD i (0, 0, [])).2.1)) else _) else _) = _
    rw [gGd_b (by omega)]
    rfl
/-- class and reference: the same sum -/
theorem gGn_e (nu : Nat → Int32) : ∀ (n : Nat) (acc : List (Nat × Nat × List Nat)), acc.length = n → gGs (gLof acc) nu 0 acc.length = gGn (gWg acc) nu (gWg acc).length
  | 0, acc, h => by
    have : acc = [] := List.length_eq_zero_iff.mp h
    subst this
    rfl
  | n + 1, acc, h => by
    have hne : acc ≠ [] := by intro z; subst z; simp at h
    obtain ⟨B, x, rfl⟩ : ∃ B x, acc = B ++ [x] := ⟨acc.dropLast, acc.getLast hne, (List.dropLast_concat_getLast hne).symm⟩
    have hl : (B ++ [x]).length = B.length + 1 := by simp
    have ih := gGn_e nu n B (by omega)
    obtain ⟨k, m, K⟩ := x
    rw [hl, gGs, gGs_a _ (Nat.le_refl _), ih]
    show (if ((B ++ [(k, m, K)]).getD B.length (0, 0, [])).1 < 2 then (if gEvT nu ((B ++ [(k, m, K)]).getD B.length (0, 0, [])).2.2 = true then (if ((B ++ [(k, m, K)]).getD B.length (0, 0, [])).1 = 0 then _ + nI ((B ++ [(k, m, K)]).getD B.length (0, 0, [])).2.1 else _ + (-nI ((B ++ [(k, m, K)]).getD B.length (0, 0, [])).2.1)) else _) else _) = _
    rw [gGd_l]
    by_cases hk : k < 2
    · rw [if_pos hk, gWg_1 hk]
      have hl2 : (gWg B ++ [(k, m, K)]).length = (gWg B).length + 1 := by simp
      rw [hl2, gGn, gGn_a _ (Nat.le_refl _), gGd_l]
      show (if gEvT nu K = true then (if k = 0 then _ + nI m else _ + (-nI m)) else _) = (if gEvT nu K = true then _ + gSgn k m else _)
      unfold gSgn
      by_cases h0 : k = 0
      · rw [if_pos h0, if_pos h0]
      · rw [if_neg h0, if_neg h0]
    · rw [if_neg hk]
      by_cases h2 : k = 2
      · rw [gWg_2 h2]
      · have : gWg (B ++ [(k, m, K)]) = gWg B := by simp [gWg, List.filter_append, hk]
        rw [this]
/-- the same, begun with a -/
theorem gGs_0 (L : gLf) (nu : Nat → Int32) (a : Int32) : ∀ k : Nat, gGs L nu a k = a + gGs L nu 0 k
  | 0 => by rw [gGs, gGs, Int32.add_zero]
  | k + 1 => by
    rw [gGs, gGs, gGs_0 L nu a k]
    split
    · split
      · split
        · rw [Int32.add_assoc]
        · rw [Int32.add_assoc]
      · rfl
    · rfl
theorem gSw_0 (ch : Nat → Int32) (ws a : Int32) : ∀ k : Nat, gSw ch ws a k = a + gSw ch ws 0 k
  | 0 => by rw [gSw, gSw, Int32.add_zero]
  | k + 1 => by
    rw [gSw, gSw, gSw_0 ch ws a k]
    split
    · rfl
    · rw [Int32.add_assoc]
