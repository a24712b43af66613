/-! DAYS, WHO FLIES, SEEN, in our words -/
theorem gHold_eq {π π' f : gPS} {L : gLf} (h : gHold π f L) (e : π' 15 6 = π 15 6) : gHold π' f L := by
  unfold gHold at h ⊢
  rw [e]
  exact h
theorem gU_o {π : gPS} {a k : Nat} {x : Int32} {j : Nat} (h : j ≠ k) : (gU π a k x) a j = π a j := by
  rw [gU_at]
  unfold upd
  rw [if_neg h]
theorem gU_e {π : gPS} {a k : Nat} {x : Int32} : (gU π a k x) a k = x := by
  rw [gU_at]
  unfold upd
  rw [if_pos rfl]
theorem gU_uu {π : gPS} {a k : Nat} {x y : Int32} : gU (gU π a k x) a k y = gU π a k y := by
  funext b j
  by_cases hb : b = a
  · subst hb
    rw [gU_at, gU_at, gU_at]
    unfold upd
    by_cases hj : j = k
    · rw [if_pos hj, if_pos hj]
    · rw [if_neg hj, if_neg hj, if_neg hj]
  · rw [gU_ne hb, gU_ne hb, gU_ne hb]
theorem gU_id {π : gPS} {a k : Nat} {x : Int32} (h : π a k = x) : gU π a k x = π := by
  funext b j
  by_cases hb : b = a
  · subst hb
    rw [gU_at]
    unfold upd
    by_cases hj : j = k
    · rw [if_pos hj, hj, h]
    · rw [if_neg hj]
  · rw [gU_ne hb]
theorem gDp_15 {π : gPS} {L : gLf} {r : Int32} {k j : Nat} (hj : j ≠ 1) : (gDp π L r k) 15 j = π 15 j := by
  unfold gDp
  by_cases h : gFly π L k
  · rw [if_pos h, gU_ne (by decide), gU_ne (by decide), gU_ne (by decide), gU_o hj]
  · rw [if_neg h, gU_ne (by decide)]
theorem gDy_15 {π : gPS} {L : gLf} {r : Int32} {j : Nat} (hj : j ≠ 1) : ∀ k : Nat, (gDy π L r k) 15 j = π 15 j
  | 0 => rfl
  | k + 1 => by rw [gDy, gDp_15 hj, gDy_15 hj k]
/-- who flies, of the first k, as bits -/
def gRdy (π : gPS) (L : gLf) : Nat → Int32
  | 0 => 0
  | k + 1 => if gFly π L k then gRdy π L k ||| 1 <<< (nI k &&& 31) else gRdy π L k
/-- the word to leave out, of the first w: which, and the joy without it -/
def gSpa (π : gPS) (L : gLf) (p : Nat) : Nat → Int32 × Int32
  | 0 => (-5, gJoy π L p (π 4 p))
  | w + 1 => if π 4 p >>> (nI w &&& 31) &&& 1 = 0 then gSpa π L p w else if gJoy π L p (π 4 p &&& (1 <<< (nI w &&& 31) ^^^ -1)) ≤ (gSpa π L p w).2 then gSpa π L p w else (nI w, gJoy π L p (π 4 p &&& (1 <<< (nI w &&& 31) ^^^ -1)))
/-- is all of SEEN so, from row k on, of d -/
def gSn (π : gPS) (L : gLf) (k : Nat) : Nat → Bool
  | 0 => true
  | d + 1 => if (0 < gJoy π L (π 8 k).toNatClampNeg (π 9 k)) ↔ (π 10 k = 1) then gSn π L (k + 1) d else false
def gChs (π : gPS) (L : gLf) (w sn : Nat) : Nat → Int32
  | 0 => 0
  | n + 1 => if gSn (gU π 0 w (nI n)) L 0 sn = true then gChs π L w sn n ||| 1 <<< (nI n &&& 31) else gChs π L w sn n
/-- of v from 9 down: how many are so, and the least -/
def gCan (π : gPS) (L : gLf) (p sn : Nat) : Nat → Int32 × Int32
  | 0 => (0, -5)
  | n + 1 => if gSn (gU π 3 p (nI (9 - n))) L 0 sn = true then ((gCan π L p sn n).1 + 1, nI (9 - n)) else gCan π L p sn n
def gOdd (π : gPS) (L : gLf) (p : Nat) : Nat → Int32
  | 0 => 0
  | w + 1 => if (0 : Int32) < gJoy π L p (π 4 p ||| (1 <<< (nI w &&& 31) : Int32)) then gOdd π L p w + 1 else gOdd π L p w
def gMea (π : gPS) (L : gLf) : Nat → Int32 × Int32
  | 0 => (0, 0)
  | k + 1 => if π 4 k = 0 then gMea π L k else ((gMea π L k).1 + gJoy π L k (π 4 k), (gMea π L k).2 + 1)
/-- the wording: the set found among the first k -/
def gWor (π : gPS) (L : gLf) (p : Nat) (fa : Int32) : Nat → Int32
  | 0 => -5
  | k + 1 => if ¬ gWor π L p fa k = -5 ∧ gBc (gWor π L p fa k) ≤ gBc (nI k) then gWor π L p fa k else if ¬ fa &&& (gMean (π 1) (nI k) 12 ^^^ -1) = 0 then gWor π L p fa k else if 0 < gJoy π L p (nI k) then nI k else gWor π L p fa k
/-- what the pigeons of a set bring, of the first k, and what is known -/
def gBri (π : gPS) (set : Int32) : Nat → Int32
  | 0 => π 15 1
  | k + 1 => if set >>> (nI k &&& 31) &&& 1 = 0 then gBri π set k else gBri π set k ||| gMean (π 1) (π 4 k) 12
def gBir (π : gPS) (L : gLf) (n : Nat) (fa : Int32) : Nat → Int32
  | 0 => -5
  | k + 1 => if ¬ nI k &&& (gRdy π L n ^^^ -1) = 0 then gBir π L n fa k else if ¬ gBir π L n fa k = -5 ∧ gBc (gBir π L n fa k) ≤ gBc (nI k) then gBir π L n fa k else if fa &&& (gBri π (nI k) n ^^^ -1) = 0 then nI k else gBir π L n fa k
