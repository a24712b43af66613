/-! THE OBJECT OF THE CLASS, its base being B -/
abbrev gLO (_ : gW) (B : Nat) (μ : gPS) : List va_E := [.inr (11, [.ref (B + 1), .ref (B + 36), .ref (B + 71), .int (μ 4 2), .ref (B + 106), .int (μ 4 0), .ref (B + 107), .int (μ 4 3), .ref (B + 108), .ref (B + 109), .ref (B + 111), .ref (B + 111 + 1), .ref (B + 111 + 2)])]
abbrev gLF (G : gW) (b : Nat) : List va_E := [.inl (G.2.1 4, 6, .inr (.inr (.inr (.inr (fun j => some (b + 13 + 6 * j))))))]
abbrev gLN (G : gW) (_ : Nat) (γ : gPS) : List va_E := [.inl (G.2.1 0, 13, .inl (γ 0))]
abbrev gLT (G : gW) (b : Nat) (μ : gPS) : List va_E := [.inl (G.2.1 0, 6, .inl (μ 2)), .inl (G.2.1 0, 6, .inl (μ 3)), .inl (G.2.1 6, 6, .inr (.inr (.inr (.inr (fun t => some (b + 3 + t))))))]
/-- the text's cells, as a stretch that tells its base -/
abbrev gLB2 (G : gW) (_ : Nat) (μ : gPS) : List va_E := gLB G μ
/-- the tapes' rows -/
def gRows (G : gW) (b : Nat) (g : Nat → Int64) (H : Heap) : Prop := ∀ t, t < 6 → ∃ r : Nat → Int64, gAt G (b + t) (.inl (G.2.1 2, 60, .inr (.inl r))) H ∧ ∀ i, i < 60 → r i = g (60 * t + i)
theorem gRows_kept {G : gW} {b : Nat} {g : Nat → Int64} {H H1 : Heap} (h : gRows G b g H) (hq : ∀ k, k < 6 → H1[b + k]? = H[b + k]?) : gRows G b g H1 := fun t ht => by
  obtain ⟨r, h1, h2⟩ := h t ht
  exact ⟨r, h1.kept (hq t ht), h2⟩
theorem gRows_free {G : gW} {b : Nat} {g : Nat → Int64} {H H1 : Heap} {A : Nat → Prop} (h : gRows G b g H) (hq : ∀ q : Nat, q < H.size → ¬ A q → H1[q]? = H[q]?) (hA : ∀ k, k < 6 → ¬ A (b + k)) : gRows G b g H1 := gRows_kept h fun k hk => hq _ (by
  obtain ⟨r, h1, -⟩ := h k hk
  exact h1.lt) (hA k hk)
theorem gRows_off {G : gW} {b : Nat} {g : Nat → Int64} {H H1 : Heap} {a : Nat} (h : gRows G b g H) (oq : ∀ q : Nat, q ≠ a → H1[q]? = H[q]?) (ha : a < b ∨ b + 6 ≤ a) : gRows G b g H1 := gRows_kept h fun k hk => oq _ (by omega)
theorem gRows_set {G : gW} {b t i : Nat} {g r : Nat → Int64} {v : Int64} {H H1 : Heap} (h : gRows G b g H) (hi : i < 60) (hr : ∀ i, i < 60 → r i = g (60 * t + i)) (hx : gAt G (b + t) (.inl (G.2.1 2, 60, .inr (.inl (vp_updL r i v)))) H1) (oq : ∀ q : Nat, q ≠ b + t → H1[q]? = H[q]?) : gRows G b (vp_updL g (60 * t + i) v) H1 := by
  intro s hs
  by_cases e : s = t
  · subst e
    refine ⟨_, hx, fun j hj => ?_⟩
    unfold vp_updL
    by_cases z : j = i
    · rw [if_pos z, if_pos (by omega)]
    · rw [if_neg z, if_neg (by omega)]
      exact hr j hj
  · obtain ⟨r2, h1, h2⟩ := h s hs
    refine ⟨r2, h1.kept (oq _ (by omega)), fun j hj => ?_⟩
    unfold vp_updL
    rw [if_neg (by omega)]
    exact h2 j hj
/-- a State's rows by hand, as far as they count -/
def gRho (π ρ : gPS) : Prop := (∀ k, k < (π 15 3).toNatClampNeg → ρ 0 k = π 8 k ∧ ρ 1 k = π 9 k ∧ ρ 2 k = π 10 k) ∧ (∀ k, k < (π 15 4).toNatClampNeg → ρ 3 k = π 11 k ∧ (¬ π 11 k = 0 → ρ 4 k = π 12 k)) ∧ (∀ k, k < (π 15 5).toNatClampNeg → ρ 6 k = π 13 k ∧ ρ 7 k = π 14 k)
/-- what holds of all states -/
def gInv (π : gPS) : Prop := (∃ n, n ≤ 6 ∧ π 15 0 = nI n ∧ ∀ k, n ≤ k → k < 6 → π 4 k = 0 ∧ π 5 k = 0 ∧ π 6 k = 0 ∧ ∀ j, j < 4 → π 7 (4 * k + j) = 0) ∧ (∀ k, k < 6 → ∃ z, z < 7 ∧ π 2 k = nI z) ∧ (∃ sn, sn ≤ 5 ∧ π 15 3 = nI sn ∧ ∀ k, k < sn → (∃ q, q < 6 ∧ π 8 k = nI q) ∧ (π 10 k = 0 ∨ π 10 k = 1)) ∧ (∃ pn, pn ≤ 10 ∧ π 15 4 = nI pn ∧ gPlOk π pn) ∧ (∃ bn, bn ≤ 8 ∧ π 15 5 = nI bn ∧ ∀ k, k < bn → ∃ q, q < 12 ∧ π 13 k = nI q) ∧ (∀ k, k < 6 → ∃ w, w ≤ 9999 ∧ π 6 k = nI w)
/-- the whole object but the lofts that don't hold -/
def gCW (G : gW) (B lp : Nat) (π : gPS) (lk : Nat) (πk f μ α : gPS) (g : Nat → Int64) (H : Heap) : Prop := ∃ ρ : gPS, gRho π ρ ∧ gSg G B (gLO G B μ) H ∧ gSg G (B + 1) (gLS G (B + 1) π lp ρ) H ∧ gSg G (B + 1 + 28) (gKk G (B + 1 + 28)) H ∧ gC4 G lp f H ∧ (∃ (πt : gPS) (lt : Nat) (ρt : gPS), gSg G (B + 36) (gLS G (B + 36) πt lt ρt) H) ∧ gSg G (B + 36 + 28) (gKk G (B + 36 + 28)) H ∧ (∃ ρk : gPS, gRho πk ρk ∧ gSg G (B + 71) (gLS G (B + 71) πk lk ρk) H) ∧ gSg G (B + 106) (gLB2 G (B + 106) μ) H ∧ gSg G (B + 107) (gLF G (B + 107)) H ∧ (∃ γ : gPS, gSg G (B + 108) (gLN G (B + 108) γ) H) ∧ gSg G (B + 109) (gLA G (B + 109) α) H ∧ gSg G (B + 111) (gLT G (B + 111) μ) H ∧ gRows G (B + 114) g H
/-- the lofts' places -/
def gLpl (B lp : Nat) : Prop := lp = B + 23 ∨ lp = B + 58 ∨ lp = B + 93 ∨ (B + 120 ≤ lp ∧ lp + 6 ≤ B + 156)
/-- what the calls may write -/
def gAX (B lp : Nat) (q : Nat) : Prop := (lp ≤ q ∧ q < lp + 6) ∨ (B ≤ q ∧ q < B + 23) ∨ (B + 36 ≤ q ∧ q < B + 58) ∨ (B + 71 ≤ q ∧ q < B + 93) ∨ (B + 106 ≤ q ∧ q < B + 120)
section GA6
variable {p : Program} {l : Launch} {e : Env} {R : Room} {s : State} {m : MethodId} {args : Array Value} {below : List Frame} {meth : Method} {c : Code} {H : Heap} {locs : List Loc} {cells slots : Nat} {Q : State → Prop}
variable {cc : ByteArray} {pc : Nat} {ls : Array Slot} {rest : List Value} {G : gW} {A : Nat → Prop} {a : Nat} {H0 : Heap} {n : Nat} {i : Int32}
theorem g_aa6 {f : Nat → Option Nat} (j : Nat) {v : Value} (hx : p.tables.exec = Jvm.exec) (hb : c.code = cc) (hK : va_K G.1 vwCl (gTys G) s) (he : gAt G a (.inl (G.2.1 6, n, .inr (.inr (.inr (.inr f))))) H) (hi : i = nI j) (hj : j < n) (hn : n ≤ 4096) (hv : va_rf (f j) = v) (hdg : decode cc pc = .ok (.aaload, 1))
    (kk : W p l e R s m args below meth c H locs cells slots Q (F0 m (pc + 1) ls (v :: rest))) : W p l e R s m args below meth c H locs cells slots Q (F0 m pc ls (.int i :: .ref a :: rest)) := by
  subst hv
  have hin : vp_in i n := gIn hi hj hn
  have ej : i.toNatClampNeg = j := gCl hi hj hn
  exact W.aald (v := va_rf (f j)) (ty := .array .long) hx hb he ((hK.2 6 _ rfl).1 n (fun j => va_rf (f j))) rfl (fun q => by cases q) (by show ¬ (i < 0 ∨ (arrV _ _ _).slots.size ≤ _); rw [arrV_size]; exact hin) (by show (arrV _ _ _).slots[_]? = _; rw [ej, arrV_read _ _ hj]) rfl rfl hdg kk
end GA6
