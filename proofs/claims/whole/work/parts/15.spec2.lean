/-! LOFTS AND JOY, in our words. A loft in force: how many clauses, of each: 0 glad 1 grim 2 rest, its n, its E in postfix (0 not, 1 and, 2 or, 3 and more: a test). -/
abbrev gLf : Type := Nat × (Nat → Nat) × (Nat → Int32) × (Nat → List Nat)
/-- a family of rows, one row another -/
def gR (f : gPS) (a : Nat) (row : Nat → Int32) : gPS := fun b => bif Nat.beq b a then row else f b
/-- Integer.bitCount, as it counts -/
def gB1 (x : Int32) : Int32 := x - ((x.toUInt32 >>> ((1 : Int32).toUInt32 &&& Int32.toUInt32 31)).toInt32 &&& 1431655765)
def gB2 (x : Int32) : Int32 := (x &&& 858993459) + ((x.toUInt32 >>> ((2 : Int32).toUInt32 &&& Int32.toUInt32 31)).toInt32 &&& 858993459)
def gB3 (x : Int32) : Int32 := (x + (x.toUInt32 >>> ((4 : Int32).toUInt32 &&& Int32.toUInt32 31)).toInt32) &&& 252645135
def gB4 (x : Int32) : Int32 := x + (x.toUInt32 >>> ((8 : Int32).toUInt32 &&& Int32.toUInt32 31)).toInt32
def gB5 (x : Int32) : Int32 := x + (x.toUInt32 >>> ((16 : Int32).toUInt32 &&& Int32.toUInt32 31)).toInt32
def gBc (x : Int32) : Int32 := gB5 (gB4 (gB3 (gB2 (gB1 x)))) &&& 63
theorem gBc_n (x : Int32) : ∃ j : Nat, j < 64 ∧ gBc x = nI j := pk_andE _ 6 (by decide)
def gTst (nu : Nat → Int32) (q : Nat) : Bool := if q / 100 % 3 = 0 then decide (nu (q / 300) < nI (q % 100)) else if q / 100 % 3 = 1 then decide (nu (q / 300) = nI (q % 100)) else decide (nI (q % 100) < nu (q / 300))
def gEs (nu : Nat → Int32) (c : Nat) (st : List Bool) : List Bool := if 3 ≤ c then gTst nu (c - 3) :: st else if c = 0 then (match st with | a :: s => (!a) :: s | [] => []) else (match st with | a :: b :: s => (if c = 1 then b && a else b || a) :: s | s => s)
def gEv (nu : Nat → Int32) : List Nat → List Bool → List Bool
  | [], st => st
  | c :: cs, st => gEv nu cs (gEs nu c st)
def gEvT (nu : Nat → Int32) (code : List Nat) : Bool := (gEv nu code []).headD false
/-- the code runs from height h, never above 30, to one -/
def gRun : List Nat → Nat → Bool
  | [], h => h == 1
  | c :: cs, h => if 3 ≤ c then (if h < 30 ∧ c < 1803 then gRun cs (h + 1) else false) else if c = 0 then (if 1 ≤ h then gRun cs h else false) else (if 2 ≤ h then gRun cs (h - 1) else false)
def gNu (π : gPS) (p : Nat) (n : Int32) : Nat → Int32 := fun x => if x = 0 then nI p else if x = 1 then π 2 p else if x = 2 then π 3 p else if x = 3 then π 5 p else if x = 4 then n else π 15 2 - π 15 2 / 10 * 10
def gSw (ch : Nat → Int32) (ws a : Int32) : Nat → Int32
  | 0 => a
  | k + 1 => if ws >>> (nI k &&& 31) &&& 1 = 0 then gSw ch ws a k else gSw ch ws a k + (ch k - 4)
def gLst (ch : Nat → Int32) (ws : Int32) : Nat → Int32
  | 0 => 9
  | k + 1 => if ws >>> (nI k &&& 31) &&& 1 = 0 then gLst ch ws k else (if ch k < gLst ch ws k then ch k else gLst ch ws k)
def gGrim (ch : Nat → Int32) (ws : Int32) : Int32 := if ws = 0 then 0 else gLst ch ws 12
def gGs (L : gLf) (nu : Nat → Int32) (a : Int32) : Nat → Int32
  | 0 => a
  | i + 1 => if L.2.1 i < 2 then (if gEvT nu (L.2.2.2 i) = true then (if L.2.1 i = 0 then gGs L nu a i + L.2.2.1 i else gGs L nu a i + (-L.2.2.1 i)) else gGs L nu a i) else gGs L nu a i
def gSum (π : gPS) (L : gLf) (k : Nat) (ws : Int32) : Int32 := gGs L (gNu π k (gBc ws)) (gSw (π 0) ws (-(π 5 k)) 12) L.1
def gRs (L : gLf) : Nat → Int32
  | 0 => 1
  | i + 1 => if L.2.1 i = 2 then L.2.2.1 i else gRs L i
def gJoy (π : gPS) (L : gLf) (k : Nat) (ws : Int32) : Int32 := if π 2 k = 1 then gSum π L k ws + π 3 k else if π 2 k = 2 then gSum π L k ws / 2 else if π 2 k = 3 then gSum π L k ws - gGrim (π 0) ws else if π 2 k = 4 then gSum π L k ws + π 3 k - 2 * π 5 k else if π 2 k = 5 then gSum π L k ws / 2 + gBc (π 15 1) else if π 2 k = 6 then gSum π L k ws - gGrim (π 0) ws + π 7 (4 * k + (gBc ws).toNatClampNeg % 4) else gSum π L k ws
abbrev gFly (π : gPS) (L : gLf) (k : Nat) : Prop := ¬ π 4 k = 0 ∧ 0 < gJoy π L k (π 4 k)
/-- what a day does with PIGEON k -/
def gDp (π : gPS) (L : gLf) (rest : Int32) (k : Nat) : gPS := if gFly π L k then gU (gU (gU (gU π 15 1 (π 15 1 ||| gMean (π 1) (π 4 k) 12)) 4 k 0) 5 k (if π 5 k + 2 < 9 then π 5 k + 2 else 9)) 6 k (π 6 k + 1) else gU π 5 k (if 0 < π 5 k - rest then π 5 k - rest else 0)
def gDy (π : gPS) (L : gLf) (rest : Int32) : Nat → gPS
  | 0 => π
  | k + 1 => gDp (gDy π L rest k) L rest k
def gDay (π : gPS) (L : gLf) (n : Nat) : gPS := gU (gDy π L (gRs L L.1) n) 15 2 ((gDy π L (gRs L L.1) n) 15 2 + 1)
/-- a clause of the reference, at its place c -/
def gMC (L : gLf) (i c : Nat) (f : gPS) : Prop := L.2.1 i < 3 ∧ f 2 c = nI (L.2.1 i) ∧ f 3 c = L.2.2.1 i ∧ ∃ bg : Nat, f 4 c = nI bg ∧ f 5 c = nI (L.2.2.2 i).length ∧ bg + (L.2.2.2 i).length ≤ 800 ∧ (∀ q, q < (L.2.2.2 i).length → f 6 (bg + q) = nI ((L.2.2.2 i).getD q 0)) ∧ (L.2.1 i < 2 → gRun (L.2.2.2 i) 0 = true)
def gM1 (L : gLf) (h : Nat) (f : gPS) : Prop := L.1 ≤ 10 ∧ f 1 h = nI L.1 ∧ ∀ i, i < L.1 → gMC L i (10 * h + i) f
/-- the loft in force -/
def gHold (π f : gPS) (L : gLf) : Prop := (π 15 6 = -1 ∧ L.1 = 0) ∨ ∃ h : Nat, h < 6 ∧ π 15 6 = nI h ∧ gM1 L h f
/-- the reference's cells, whatever its stack holds -/
def gM7 (G : gW) (b : Nat) (π μ f : gPS) (g : Nat → Int64) (H : Heap) : Prop := ∃ s7 : Nat → Int32, gSg G b (gLM G b π μ (gR f 7 s7) g) H
/-- the booleans of st lie in a row, the last in ahead -/
def gStk (fs : Nat → Int32) : List Bool → Prop
  | [] => True
  | a :: st => fs st.length = gB (a = true) ∧ gStk fs st
theorem gStk_up {fs : Nat → Int32} {x : Int32} : ∀ {st : List Bool} {i : Nat}, st.length ≤ i → gStk fs st → gStk (upd fs i x) st
  | [], _, _, _ => trivial
  | a :: st, i, hi, h => by
    have hl : st.length + 1 ≤ i := hi
    refine ⟨?_, gStk_up (by omega) h.2⟩
    rw [← h.1]
    unfold upd
    rw [if_neg (by omega)]
theorem gNz (P : Prop) [Decidable P] : vp_nar .boolean (gB P) = gB P := by
  unfold gB
  split <;> rfl
theorem gHas1 {x : Int32} : x &&& 1 = 1 ↔ ¬ x &&& 1 = 0 := by
  obtain ⟨j, hj, e⟩ := pk_andE x (m := 1) 1 (by decide)
  rw [e]
  have : j = 0 ∨ j = 1 := by omega
  rcases this with rfl | rfl
  · decide
  · decide
theorem gRun_t {c : Nat} {cs : List Nat} {h : Nat} (hc : 3 ≤ c) (q : gRun (c :: cs) h = true) : h < 30 ∧ c < 1803 ∧ gRun cs (h + 1) = true := by
  rw [gRun, if_pos hc] at q
  by_cases e : h < 30 ∧ c < 1803
  · rw [if_pos e] at q; exact ⟨e.1, e.2, q⟩
  · rw [if_neg e] at q; cases q
theorem gRun_0 {c : Nat} {cs : List Nat} {h : Nat} (hc : c = 0) (q : gRun (c :: cs) h = true) : 1 ≤ h ∧ gRun cs h = true := by
  subst hc
  rw [gRun, if_neg (by decide), if_pos rfl] at q
  by_cases e : 1 ≤ h
  · rw [if_pos e] at q; exact ⟨e, q⟩
  · rw [if_neg e] at q; cases q
theorem gRun_b {c : Nat} {cs : List Nat} {h : Nat} (h3 : ¬ 3 ≤ c) (hc : ¬ c = 0) (q : gRun (c :: cs) h = true) : 2 ≤ h ∧ gRun cs (h - 1) = true := by
  rw [gRun, if_neg h3, if_neg hc] at q
  by_cases e : 2 ≤ h
  · rw [if_pos e] at q; exact ⟨e, q⟩
  · rw [if_neg e] at q; cases q
theorem gDiv {x y : Int32} {a b : Nat} (hx : x = nI a) (hy : y = nI b) (h0 : 0 < b) (ha : a < 2147483648) (hb : b < 2147483648) : x / y = nI (a / b) := by rw [hx, hy, pk_div ha h0 hb]
theorem gRem {x y : Int32} {a b : Nat} (hx : x = nI a) (hy : y = nI b) (h0 : 0 < b) (ha : a < 2147483648) (hb : b < 2147483648) : x - x / y * y = nI (a % b) := by rw [hx, hy, pk_rem ha h0 hb]
theorem gRun_c {c : Nat} {cs : List Nat} {h : Nat} (q : gRun (c :: cs) h = true) : c < 1803 := by
  by_cases h3 : 3 ≤ c
  · exact (gRun_t h3 q).2.1
  · omega
theorem gNe1 {h : Nat} (hh : h < 2147483648) : ¬ nI h = -1 := fun z => by
  have := congrArg Int32.toInt z
  rw [nI_toInt hh] at this
  have e : (-1 : Int32).toInt = -1 := by decide
  rw [e] at this
  omega
