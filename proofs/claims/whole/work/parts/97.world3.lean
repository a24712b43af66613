/-! THE WORLD: what a call of the one does not touch of the other -/
theorem gCN_at {G : gW} {B lp lk : Nat} {π πk μ α : gPS} {g : Nat → Int64} {H : Heap} (h : gCN G B lp π lk πk μ α g H) : gAt G B (.inr (11, [.ref (B + 1), .ref (B + 36), .ref (B + 71), .int (μ 4 2), .ref (B + 106), .int (μ 4 0), .ref (B + 107), .int (μ 4 3), .ref (B + 108), .ref (B + 109), .ref (B + 111), .ref (B + 111 + 1), .ref (B + 111 + 2)])) H := by
  obtain ⟨ρ, -, h, -⟩ := h
  exact h 0 _ rfl
theorem gCN_free {G : gW} {B lp lk : Nat} {π πk μ α : gPS} {g : Nat → Int64} {H H1 : Heap} {S : Nat → Prop} (h : gCN G B lp π lk πk μ α g H) (hq : ∀ q : Nat, q < H.size → ¬ S q → H1[q]? = H[q]?) (hS : ∀ q, B ≤ q → q < B + 156 → ¬ S q) : gCN G B lp π lk πk μ α g H1 := by
  obtain ⟨ρ, hrr, zO, h1, hk7, ⟨πt, lt, ρt, zT⟩, zKT, ⟨ρk, hrk, zE⟩, zB, zF, ⟨γ, zN⟩, zA, zP, zG⟩ := h
  refine ⟨ρ, hrr, gSg_free zO hq (fun k hk => hS _ (by omega) ?_), gSg_free h1 hq (fun k hk => hS _ (by omega) ?_), gSg_free hk7 hq (fun k hk => hS _ (by omega) ?_), ⟨πt, lt, ρt, gSg_free zT hq (fun k hk => hS _ (by omega) ?_)⟩, gSg_free zKT hq (fun k hk => hS _ (by omega) ?_), ⟨ρk, hrk, gSg_free zE hq (fun k hk => hS _ (by omega) ?_)⟩, gSg_free zB hq (fun k hk => hS _ (by omega) ?_), gSg_free zF hq (fun k hk => hS _ (by omega) ?_), ⟨γ, gSg_free zN hq (fun k hk => hS _ (by omega) ?_)⟩, gSg_free zA hq (fun k hk => hS _ (by omega) ?_), gSg_free zP hq (fun k hk => hS _ (by omega) ?_), gRows_free zG hq (fun k hk => hS _ (by omega) (by omega))⟩ <;> (simp only [List.length_cons, List.length_nil] at hk; omega)
theorem gWC_free {G : gW} {B lp lk lc : Nat} {π πk μ α : gPS} {g : Nat → Int64} {A : Nat → gLd} {H H1 : Heap} {S : Nat → Prop} (h6 : lc ≤ 6) (h : gWC G B lp lk π πk μ α g lc A H) (hq : ∀ q : Nat, q < H.size → ¬ S q → H1[q]? = H[q]?) (hS : ∀ q, B ≤ q → q < B + 156 → ¬ S q) : gWC G B lp lk π πk μ α g lc A H1 :=
  ⟨gCN_free h.1 hq hS, gLfs_free h.2 hq (fun q a b _ _ _ => hS q (by omega) b) h6⟩
theorem gMA_free {G : gW} {b : Nat} {π μ f : gPS} {g : Nat → Int64} {H H1 : Heap} {S : Nat → Prop} (h : gMA G b π μ f g H) (hq : ∀ q : Nat, q < H.size → ¬ S q → H1[q]? = H[q]?) (hS : ∀ q, b ≤ q → q < b + 30 → ¬ S q) : gMA G b π μ f g H1 := by
  obtain ⟨sA, s7, z⟩ := h
  exact ⟨sA, s7, gSg_free z hq (fun k hk => hS _ (by omega) (by simp only [List.length_cons, List.length_nil] at hk; omega))⟩
theorem gAr_no {B lp q : Nat} (hlp : lp = B + 23 ∨ lp = B + 58 ∨ lp = B + 93 ∨ (B + 120 ≤ lp ∧ lp + 6 ≤ B + 156)) (h : B + 156 ≤ q) : ¬ gAr B lp q := by omega
theorem gMA_at {G : gW} {b : Nat} {π μ f : gPS} {g : Nat → Int64} {H : Heap} (h : gMA G b π μ f g H) : ∃ fs, gAt G b (.inr (12, fs)) H := by
  obtain ⟨sA, s7, z⟩ := h
  exact ⟨_, z 0 _ rfl⟩
/-- the facts of the state -/
def gSta (B lc lp lk : Nat) (π πk μ α f : gPS) (A : Nat → gLd) (acc acck : gLd) : Prop := gInv π ∧ gInv πk ∧ gTA α μ ∧ (∃ rn, rn ≤ 4096 ∧ μ 4 1 = nI rn) ∧ gTpe μ ∧ gTxt μ ∧ μ 4 3 = nI lc ∧ lc ≤ 6 ∧ gLk B lc A π lp acc ∧ gLk B lc A πk lk acck ∧ gRL f lc A ∧ (¬ μ 4 2 = 0 → f 9 = gEn πk)
/-- the world -/
def gWo (G : gW) (B b : Nat) (H : Heap) : Prop := ∃ (π πk μ α f : gPS) (g : Nat → Int64) (lc lp lk : Nat) (A : Nat → gLd) (acc acck : gLd), gSta B lc lp lk π πk μ α f A acc acck ∧ gWC G B lp lk π πk μ α g lc A H ∧ gMA G b π μ f g H
/-- what the law's body knows -/
def gLC (G : gW) (p : Program) (s : State) (m : MethodId) (meth : Method) (c : Code) (b0 L : Nat) (xs : Nat → Int32) : Prop := p.tables.exec = Jvm.exec ∧ c.code = cL_law ∧ c.maxLocals = 4 ∧ s.vm.findClass RL = some m.cls ∧ (∀ w ∈ gTW, w.before #[Value.ref b0] s = true) ∧ va_X b0 L xs s s.heap ∧ b0 < s.heap.size ∧ gEF2 G s ∧ G.2.2.2 = s.heap
/-- reading the script -/
theorem g_sld {p : Program} {l : Launch} {e : Env} {R : Room} {s : State} {m : MethodId} {args : Array Value} {below : List Frame} {meth : Method} {c : Code} {H : Heap} {locs : List Loc} {cells slots : Nat} {Q : State → Prop} {cc : ByteArray} {pc : Nat} {ls : Array Slot} {rest : List Value} {b0 L j : Nat} {xs : Nat → Int32} {i : Int32} (hx : p.tables.exec = Jvm.exec) (hb : c.code = cc) (hX : va_X b0 L xs s s.heap) (hbl : b0 < s.heap.size) (hS : va_S (fun q => s.heap.size ≤ q) s.heap H locs) (hi : i = nI j) (hj : j < L) (hL : L ≤ 3072) (hdg : decode cc pc = .ok (.iaload, 1))
    (kk : W p l e R s m args below meth c H locs cells slots Q (F0 m (pc + 1) ls (.int (xs j) :: rest))) : W p l e R s m args below meth c H locs cells slots Q (F0 m pc ls (.int i :: .ref b0 :: rest)) := by
  refine va_sld hx hb hX hbl (Nat.not_le.mpr hbl) hS (gIn hi hj (by omega)) hdg ?_
  rw [gCl hi hj (by omega)]
  exact kk
