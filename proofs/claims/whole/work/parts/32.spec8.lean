/-! ACTS, in our words -/
def gTr1 (μ : gPS) (b : Int32) : gPS := gU (if μ 4 1 < 20 then gU μ 1 (μ 4 1).toNatClampNeg b else μ) 4 1 (μ 4 1 + 1)
def gTrs (μ : gPS) (l : List Int32) : gPS := l.foldl gTr1 μ
theorem gTrs_a (μ : gPS) (a b : List Int32) : gTrs μ (a ++ b) = gTrs (gTrs μ a) b := List.foldl_append
theorem gTr1_n {μ : gPS} {b : Int32} {t : Nat} (h : μ 4 1 = nI t) : (gTr1 μ b) 4 1 = nI (t + 1) := by
  unfold gTr1
  rw [gU_e]
  exact gAdd h rfl
theorem gTrs_n {t : Nat} : ∀ (l : List Int32) {μ : gPS} {t : Nat}, μ 4 1 = nI t → (gTrs μ l) 4 1 = nI (t + l.length)
  | [], _, _, h => h
  | b :: l, μ, t, h => by
    have e := gTrs_n (t := t) l (gTr1_n (b := b) h)
    rw [show t + 1 + l.length = t + (b :: l).length by simp only [List.length_cons]; omega] at e
    exact e
def gCoo (p : Nat) (v : Int32) (k : Nat) (x : Int32) : Int32 × List Int32 := match k with
  | 2 => (x * 3 + nI p, [30, 10])
  | 5 => (x * 3 + nI p, [30, 10])
  | 4 => (-(x + nI p), [50, 10])
  | 6 => ((x + nI p) ^^^ v, [71, 10])
  | _ => (x + nI p, [10])
theorem gCoo_l (p : Nat) (v : Int32) (k : Nat) (x : Int32) : (gCoo p v k x).2.length ≤ 2 := by
  unfold gCoo
  split <;> simp
def gFli (p : Nat) (v : Int32) (kk k : Nat) (x : Int32) : Int32 × List Int32 := match k with
  | 1 => (((gCoo p v kk x).1 - v) ^^^ 6, [20, 11] ++ (gCoo p v kk x).2)
  | 4 => (((gCoo p v kk (x + 1)).1 - v) ^^^ 6, [51, 20, 11] ++ (gCoo p v kk (x + 1)).2)
  | 6 => ((gCoo p v kk x).1 - v + (2 + nI p), [70, 11] ++ (gCoo p v kk x).2 ++ [10])
  | _ => ((gCoo p v kk x).1 - v, [11] ++ (gCoo p v kk x).2)
theorem gFli_l (p : Nat) (v : Int32) (kk k : Nat) (x : Int32) : (gFli p v kk k x).2.length ≤ 5 := by
  have h := gCoo_l p v kk x
  have h1 := gCoo_l p v kk (x + 1)
  unfold gFli
  split <;> simp only [List.length_append, List.length_cons, List.length_nil] <;> omega
def gTel (p : Nat) (v : Int32) (kk k : Nat) (x : Int32) : Int32 × List Int32 := match k with
  | 3 => ((gFli p v kk kk x).1 * 2 + (gFli p v kk kk 1).1, [40, 12] ++ (gFli p v kk kk x).2 ++ (gFli p v kk kk 1).2)
  | 6 => ((gFli p v kk kk x).1 * 2 + (gFli p v kk kk 1).1, [40, 12] ++ (gFli p v kk kk x).2 ++ (gFli p v kk kk 1).2)
  | 5 => ((gFli p v kk kk (x - nI p)).1 * 2, [60, 12] ++ (gFli p v kk kk (x - nI p)).2)
  | _ => ((gFli p v kk kk x).1 * 2, [12] ++ (gFli p v kk kk x).2)
def gAct (π : gPS) (q : Nat) (a x : Int32) : Int32 × List Int32 := if a = 0 then gCoo q (π 3 q) (π 2 q).toNatClampNeg x else if a = 1 then gFli q (π 3 q) (π 2 q).toNatClampNeg (π 2 q).toNatClampNeg x else gTel q (π 3 q) (π 2 q).toNatClampNeg (π 2 q).toNatClampNeg x
def gqAct (π μ : gPS) (p a x : Int32) : Int32 × gPS := if 0 ≤ p ∧ p < π 15 0 then (if 0 ≤ a ∧ a ≤ 2 then ((gAct π p.toNatClampNeg a x).1, gTrs (gU μ 4 1 0) (gAct π p.toNatClampNeg a x).2) else (0, gU μ 4 1 0)) else (0, gU μ 4 1 0)
/-- a new pigeon, its rows all 0 up to j -/
def gZr (π : gPS) (n : Nat) : Nat → gPS
  | 0 => π
  | j + 1 => gU (gZr π n j) 7 (4 * n + j) 0
theorem gZr_15 {π : gPS} {n k : Nat} : ∀ j : Nat, (gZr π n j) 15 k = π 15 k
  | 0 => rfl
  | j + 1 => by rw [gZr, gU_ne (by decide), gZr_15 j]
def gqPigeon (π : gPS) (kd v : Int32) : Int32 × gPS := if 0 ≤ kd ∧ kd ≤ 6 then (if 0 ≤ v ∧ v ≤ 9 then (if π 15 0 = 6 then (-4, π) else (π 15 0, gU (gZr (gU (gU (gU (gU (gU π 2 (π 15 0).toNatClampNeg kd) 3 (π 15 0).toNatClampNeg v) 4 (π 15 0).toNatClampNeg 0) 5 (π 15 0).toNatClampNeg 0) 6 (π 15 0).toNatClampNeg 0) (π 15 0).toNatClampNeg 4) 15 0 (π 15 0 + 1))) else (-2, π)) else (-1, π)
