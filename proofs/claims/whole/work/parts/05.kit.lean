/-! OUR OWN ROWS: what a run knows of its classes (gEF), cells one by one (gAt), a stretch of cells (gSg), rows that write one cell and say that all others stay, contracts that make nothing. -/
abbrev gW : Type := va_G × (Nat → ClassId) × (Nat → Nat) × Heap
/-- super.m(..) of a method that the superclass inherits: the links' words, which the printed list lacks -/
def gXtra : List Cond := [.methodLink RX3 23 ⟨RX2, "coos", "(LGoodNewsPigeons$Act;I)I"⟩, .methodLink RX10 31 ⟨RX4, "flies", "(LGoodNewsPigeons$Act;I)I"⟩, .methodLink RX10 35 ⟨RX4, "coos", "(LGoodNewsPigeons$Act;I)I"⟩, .methodLink RX6 32 ⟨RX1, "tells", "(LGoodNewsPigeons$Act;I)I"⟩, .sameMethod RX2 RX7 "coos" "(LGoodNewsPigeons$Act;I)I", .sameMethod RX4 RX7 "coos" "(LGoodNewsPigeons$Act;I)I", .sameMethod RX1 RX7 "tells" "(LGoodNewsPigeons$Act;I)I"]
def gTW : List Cond := gXtra ++ wsL_law
theorem gTW_law {w : Cond} (h : w ∈ wsL_law) : w ∈ gTW := List.mem_append_right _ h
theorem gTW_good : gTW.all goodWord = true := by decide +kernel
abbrev gTys (G : gW) : List (ClassId × FieldType) := [(G.2.1 0, .int), (G.2.1 1, .byte), (G.2.1 2, .long), (G.2.1 3, .boolean), (G.2.1 4, .object RX5), (G.2.1 5, .object RX7), (G.2.1 6, .array .long)]
/-- private constructors called by nest mates -/
def gNest : List (String × Nat × MethodName × String) := [(RX11, 40, yX0_init, RX11), (RX11, 56, yX5_init, RX11), (RX1, 1, yX7_init, RX11), (RX2, 1, yX7_init, RX11), (RX3, 1, yX2_init, RX11), (RX4, 3, yX7_init, RX11), (RX6, 1, yX1_init, RX11), (RX9, 59, yX5_init, RX11), (RX9, 64, yX7_init, RX11), (RX9, 67, yX2_init, RX11), (RX9, 70, yX1_init, RX11), (RX9, 73, yX4_init, RX11), (RX9, 76, yX3_init, RX11), (RX9, 79, yX6_init, RX11), (RX9, 82, yX10_init, RX11), (RX10, 3, yX4_init, RX11)]
def gCast : List (String × String) := [(RX7, RX7), (RX2, RX7), (RX1, RX7), (RX4, RX7), (RX3, RX7), (RX6, RX7), (RX10, RX7), (RX2, RX2), (RX3, RX2), (RX1, RX1), (RX6, RX1), (RX4, RX4), (RX10, RX4), (RX3, RX3), (RX6, RX6), (RX10, RX10), (RX5, RX5)]
def gNoC : List (String × String) := [(RX7, RX2), (RX1, RX2), (RX4, RX2), (RX6, RX2), (RX10, RX2), (RX7, RX1), (RX2, RX1), (RX4, RX1), (RX3, RX1), (RX10, RX1), (RX7, RX4), (RX2, RX4), (RX1, RX4), (RX3, RX4), (RX6, RX4), (RX7, RX3), (RX2, RX3), (RX1, RX3), (RX4, RX3), (RX6, RX3), (RX10, RX3), (RX7, RX6), (RX2, RX6), (RX1, RX6), (RX4, RX6), (RX3, RX6), (RX10, RX6), (RX7, RX10), (RX2, RX10), (RX1, RX10), (RX4, RX10), (RX3, RX10), (RX6, RX10)]
/-- the literals: owner, entry, text, which string (its address is G.2.2 of that) -/
def gStr : List (String × Nat × String × Nat) := [(RX5, 25, "pkvtnd", 0), (RX5, 106, "<=>", 1), (RX5, 72, "est ", 2), (RX5, 81, "ad ", 3), (RX5, 83, "rim ", 4), (RX12, 164, "pkvtnd", 0), (RX12, 169, "<=>", 1), (RX12, 195, "glad ", 5), (RX12, 201, "grim ", 6), (RX12, 203, "rest ", 7)]
/-- the literals' texts -/
def gLen : List Nat := [6, 3, 4, 3, 4, 5, 5, 5]
def gByt : List (List Int32) := [[112, 107, 118, 116, 110, 100], [60, 61, 62], [101, 115, 116, 32], [97, 100, 32], [114, 105, 109, 32], [103, 108, 97, 100, 32], [103, 114, 105, 109, 32], [114, 101, 115, 116, 32]]
/-- the literals' cells and two statics, in a heap of which nothing is changed -/
def gJs (G : gW) (U : State) (H : Heap) : Prop := vk_S 8 gLen gByt (fun i => G.2.2.1 i) (fun i => G.2.2.1 (10 + i)) (fun _ => False) U H ∧ va_Z "java/lang/String" "COMPACT_STRINGS" "Z" (.int 1) (fun _ => False) U H ∧ ∃ v : Value, (v = .null ∨ ∃ t, v = .ref t) ∧ va_Z "jdk/internal/util/Preconditions" "SIOOBE_FORMATTER" "Ljava/util/function/BiFunction;" v (fun _ => False) U H
theorem gJs.moved {G : gW} {u U : State} {H : Heap} (hvm : u.vm.Alike U.vm) (h : gJs G u H) : gJs G U H := ⟨h.1.moved hvm, h.2.1.moved hvm, h.2.2.elim fun v q => ⟨v, q.1, q.2.moved hvm⟩⟩
/-- the heap that was there at first stands -/
def gOld (G : gW) (H : Heap) : Prop := ∀ a : Nat, a < G.2.2.2.size → H[a]? = G.2.2.2[a]?
theorem gJs.now {G : gW} {U : State} {H : Heap} (hO : gOld G H) (h : gJs G U G.2.2.2) : gJs G U H := ⟨h.1.kept fun a ha _ => hO a ha, h.2.1.kept fun a ha _ => hO a ha, h.2.2.elim fun v q => ⟨v, q.1, q.2.kept fun a ha _ => hO a ha⟩⟩
/-- what every method knows of the machine's tables -/
def gEF (G : gW) (U : State) : Prop := (∀ w ∈ gTW, w.before #[] U = true) ∧ va_K G.1 vwCl (gTys G) U ∧ (∀ q ∈ gNest, va_Nw (.methodLinkNest q.1 q.2.1 q.2.2.1 q.2.2.2) U) ∧ (∀ q ∈ gCast, va_Nw (.castable q.1 q.2) U) ∧ (∀ q ∈ gNoC, va_Nc q.1 q.2 U) ∧ (∀ q ∈ gStr, vk_R q.1 q.2.1 q.2.2.1 (G.2.2.1 q.2.2.2) U) ∧ gJs G U G.2.2.2
theorem gTW_word {w : Cond} (h : w ∈ gTW) : (w.onTables && w.keeps) = true ∨ ∃ ty, w = .arrayClass ty := good_of_word (List.all_eq_true.mp gTW_good w h)
theorem gTW_at {s : State} {a : Array Value} (h : ∀ w ∈ gTW, w.before #[] s = true) : ∀ w ∈ gTW, w.before a s = true := fun w hw => word_at (State.WarmedH.refl s) (gTW_word hw) (h w hw)
theorem gEF_warm {G : gW} {s U : State} (hW : s.WarmedH U.vm) (h : gEF G s) : gEF G U := ⟨fun w hw => word_at hW (gTW_word hw) (h.1 w hw), va_K.moved hW.alike h.2.1, fun q hq => va_Nw.warmM hW (h.2.2.1 q hq), fun q hq => va_Nw.warmC hW (h.2.2.2.1 q hq), fun q hq => va_Nc.moved hW.alike (h.2.2.2.2.1 q hq), fun q hq => vk_R.warm hW (h.2.2.2.2.2.1 q hq), h.2.2.2.2.2.2.moved hW.alike⟩
/-- one cell -/
abbrev gAt (G : gW) (a : Nat) (x : va_E) (H : Heap) : Prop := va_at G.1 vwCl (a, x) H
/-- a stretch of cells from b on -/
def gSg (G : gW) (b : Nat) (L : List va_E) (H : Heap) : Prop := ∀ (k : Nat) (x : va_E), L[k]? = some x → gAt G (b + k) x H
theorem gSg_lt {G : gW} {b : Nat} {L : List va_E} {H : Heap} (h : gSg G b L H) {k : Nat} (hk : k < L.length) : b + k < H.size := (h k _ (List.getElem?_eq_getElem hk)).lt
theorem gSg_kept {G : gW} {b : Nat} {L : List va_E} {H H1 : Heap} (h : gSg G b L H) (hq : ∀ k, k < L.length → H1[b + k]? = H[b + k]?) : gSg G b L H1 := fun k x hk => (h k x hk).kept (hq k (List.getElem?_eq_some_iff.mp hk).1)
theorem gSg_free {G : gW} {b : Nat} {L : List va_E} {H H1 : Heap} {A : Nat → Prop} (h : gSg G b L H) (hq : ∀ q : Nat, q < H.size → ¬ A q → H1[q]? = H[q]?) (hA : ∀ k, k < L.length → ¬ A (b + k)) : gSg G b L H1 := gSg_kept h fun k hk => hq _ (gSg_lt h hk) (hA k hk)
theorem gSg_set {G : gW} {b : Nat} {L : List va_E} {H H1 : Heap} (h : gSg G b L H) (k : Nat) {x : va_E} (hx : gAt G (b + k) x H1) (oq : ∀ q : Nat, q ≠ b + k → H1[q]? = H[q]?) : gSg G b (L.set k x) H1 := by
  intro j y hj
  by_cases e : j = k
  · subst e
    by_cases hl : j < L.length
    · rw [List.getElem?_set_self hl] at hj
      cases hj
      exact hx
    · rw [List.getElem?_eq_none (by rw [List.length_set]; omega)] at hj
      cases hj
  · rw [List.getElem?_set_ne (Ne.symm e)] at hj
    exact (h j y hj).kept (oq _ (by omega))
theorem gSg_off {G : gW} {b : Nat} {L : List va_E} {H H1 : Heap} {a : Nat} (h : gSg G b L H) (oq : ∀ q : Nat, q ≠ a → H1[q]? = H[q]?) (ha : a < b ∨ b + L.length ≤ a) : gSg G b L H1 := gSg_kept h fun k hk => oq _ (by omega)
/-- what a method's body stands on -/
def gCX (p : Program) (s : State) (m : MethodId) (args : Array Value) (meth : Method) (c : Code) (y : MethodName) (cc : ByteArray) (n : Nat) (ret : Option FieldType) : Prop :=
  p.tables.exec = Jvm.exec ∧ c.code = cc ∧ meth.sig.returnType = ret ∧ c.maxLocals = n ∧ s.vm.findClass y.cls = some m.cls ∧ (∀ w ∈ gTW, w.before args s = true) ∧ meth.locks = false ∧ meth.name = y.name
abbrev gPre (G : gW) (av : List Value) (P : Heap → Prop) : Array Value → State → Prop := va_Pc av (fun U => gEF G U ∧ P U.heap)
set_option maxHeartbeats 4000000 in
theorem g_start {l : Launch} {y : MethodName} {cc : ByteArray} {n : Nat} {ret : Option FieldType} {rm : Room} {G : gW} {av : List Value} {P : Heap → Prop} {Qc : Array Value → State → Outcome → State → Prop} {mc ms : Nat} {A : Nat → Prop} (hy : plainName y.cls = true) (hn : (lg_sl av).length ≤ n)
    (body : ∀ (p : Program) (e : Env) (s : State) (m : MethodId) (args : Array Value) (below : List Frame) (meth : Method) (c : Code) (ls : Array Slot) (Q : State → Prop), MQ below Qc args s mc ms A = Q → gCX p s m args meth c y cc n ret → gEF G s → P s.heap → lv_has ls n (lv_args 0 av) → W p l e rm s m args below meth c s.heap [] 0 0 Q (F0 m 0 ls [])) :
    Met l y [Cond.code y cc n ret] rm (gPre G av P) Qc mc ms A := by
  refine Met.ofW (cc := cc) (maxL := n) (ret := ret) (ws' := []) hy rfl ?_
  intro p e s m args below meth c s₁ B hml hv
  obtain ⟨rfl, hE, hP⟩ := hv
  have hl := lv_entry av (n := n) hn
  rw [lg_entry_eq]
  exact body p e s m _ below meth c _ _ rfl ⟨B.exec, B.bytes, B.returns, hml, findClass_of_methodNamed B.named, gTW_at hE.1, B.notSynchronized, (name_of_methodNamed B.named B.method).1⟩ hE hP hl
section GR
variable {p : Program} {l : Launch} {e : Env} {R : Room} {s : State} {m : MethodId} {args : Array Value} {below : List Frame} {meth : Method} {c : Code} {H : Heap} {locs : List Loc} {cells slots : Nat} {Q : State → Prop}
variable {cc : ByteArray} {pc : Nat} {ls : Array Slot} {rest : List Value} {G : gW} {A : Nat → Prop} {a : Nat} {H0 : Heap}
theorem gP1 {x : va_E} (h : gAt G a x H) : va_P G.1 vwCl [(a, x)] H := by
  intro k q hk
  cases k with
  | zero => cases hk; exact h
  | succ k => simp at hk
theorem g_get {own C : String} {T : u_T} {N ci index : Nat} (hx : p.tables.exec = Jvm.exec) (hb : c.code = cc) (hown : s.vm.findClass own = some m.cls) (hK : va_K G.1 vwCl (gTys G) s) (hlay : ∀ w ∈ u_ws C T N, w.before args s = true) (hc : vwCl[ci]? = some (C, T, N)) {fs : List Value} (he : gAt G a (.inr (ci, fs)) H) (k : Nat) (hk : k < N) (hlink : (Cond.fieldLink own index (T k).1 (T k).2.1 (T k).2.2.1).before args s = true) {v : Value} (hv : fs[k]? = some v) (hdg : decode cc pc = .ok (.getfield index, 3))
    (kk : W p l e R s m args below meth c H locs cells slots Q (F0 m (pc + 3) ls (v :: rest))) : W p l e R s m args below meth c H locs cells slots Q (F0 m pc ls (.ref a :: rest)) :=
  va_get (Ts := u_ws C T N) hx hb hlay (fun _ h => h) hown hK (gP1 he) 0 rfl hc k hk hlink (fun _ h => h) hv hdg kk
theorem g_put {own C : String} {T : u_T} {N ci index : Nat} {ty0 : Nat → FieldType} (hx : p.tables.exec = Jvm.exec) (hb : c.code = cc) (hown : s.vm.findClass own = some m.cls) (hK : va_K G.1 vwCl (gTys G) s) (hS0 : va_S A H0 H locs) (hlay : ∀ w ∈ u_ws C T N, w.before args s = true) (hty : ∀ k, k < N → parseFieldDescriptor (T k).2.2.1 = some (ty0 k)) (hnm : ∀ a, a < N → ∀ b, b < N → a ≠ b → (T a).2.1 ≠ (T b).2.1) (hc : vwCl[ci]? = some (C, T, N)) {fs : List Value} (he : gAt G a (.inr (ci, fs)) H) (k : Nat) (hk : k < N) (hlink : (Cond.fieldLink own index (T k).1 (T k).2.1 (T k).2.2.1).before args s = true) (hfin : (T k).2.2.2 = false) {v : Value} (hn : narrow (ty0 k) v = v) (hfit : fits (ty0 k) v = true) (hl : k < fs.length) (hA : A a) (hdg : decode cc pc = .ok (.putfield index, 3))
    (kk : ∀ (H1 : Heap) (locs1 : List Loc), gAt G a (.inr (ci, fs.set k v)) H1 → (∀ q : Nat, q ≠ a → H1[q]? = H[q]?) → va_S A H0 H1 locs1 → W p l e R s m args below meth c H1 locs1 cells slots Q (F0 m (pc + 3) ls rest)) : W p l e R s m args below meth c H locs cells slots Q (F0 m pc ls (v :: .ref a :: rest)) := by
  have hin : ∀ w ∈ u_ws C T N, w ∈ u_ws C T N := fun _ h => h
  have hap := va_apart (own := own) hlay hin ty0 hty hnm hK hc
  obtain ⟨r, h1, cell, q1, q2, q3, q4⟩ := he
  have hr : r = (C, T, N) := Option.some.inj (h1.symm.trans hc)
  subst hr
  obtain ⟨hS, hfc, kC, hkC, hkind⟩ := hK.1 ci _ hc
  obtain ⟨cf, kf, fi, f, hi, hsl⟩ := hS k hk
  have hlay1 := hlay _ (u_in_lay hk)
  unfold u_lay at hlay1
  rw [if_neg (by rw [hfin]; decide)] at hlay1
  have hst := (u_facts hfc hkC (u_lays hlay hin hk) hi).1
  have h6 := u_store hfc hkC hkind hlay1 hi (hty k hk) hn hfit
  refine W.putK hx hb (f := f) ⟨hown, hlink, ⟨_, _, _, hi⟩, hst⟩ (by rw [q2]; exact h6) q1 q3 (by rw [hsl]; exact k2_hasslot (q4 k hk)) rfl rfl hdg fun H' e1 e2 e3 => ?_
  rw [hsl] at e1 ⊢
  exact kk H' _ ⟨_, hc, t_OB.to (V := updV (vp_V fs) k v) ⟨_, e1, q2, q3, t_set q4 hap hk v⟩ (fun j _ => vp_updV_set hl v j)⟩ e3 (hS0.put e2 e3 hA)
theorem g_iald (hx : p.tables.exec = Jvm.exec) (hb : c.code = cc) (hK : va_K G.1 vwCl (gTys G) s) {n : Nat} {f : Nat → Int32} (he : gAt G a (.inl (G.2.1 0, n, .inl f)) H) {i : Int32} (hin : vp_in i n) (hdg : decode cc pc = .ok (.iaload, 1))
    (kk : W p l e R s m args below meth c H locs cells slots Q (F0 m (pc + 1) ls (.int (f i.toNatClampNeg) :: rest))) : W p l e R s m args below meth c H locs cells slots Q (F0 m pc ls (.int i :: .ref a :: rest)) := va_iald hx hb hK (gP1 he) 0 0 rfl rfl hin hdg kk
theorem g_bald (hx : p.tables.exec = Jvm.exec) (hb : c.code = cc) (hK : va_K G.1 vwCl (gTys G) s) {n : Nat} {f : Nat → Int32} (he : gAt G a (.inl (G.2.1 1, n, .inl f)) H) {i : Int32} (hin : vp_in i n) (hdg : decode cc pc = .ok (.baload, 1))
    (kk : W p l e R s m args below meth c H locs cells slots Q (F0 m (pc + 1) ls (.int (f i.toNatClampNeg) :: rest))) : W p l e R s m args below meth c H locs cells slots Q (F0 m pc ls (.int i :: .ref a :: rest)) := va_bald hx hb hK (gP1 he) 0 1 rfl rfl hin hdg kk
theorem g_lald (hx : p.tables.exec = Jvm.exec) (hb : c.code = cc) (hK : va_K G.1 vwCl (gTys G) s) {n : Nat} {f : Nat → Int64} (he : gAt G a (.inl (G.2.1 2, n, .inr (.inl f))) H) {i : Int32} (hin : vp_in i n) (hdg : decode cc pc = .ok (.laload, 1))
    (kk : W p l e R s m args below meth c H locs cells slots Q (F0 m (pc + 1) ls (.long (f i.toNatClampNeg) :: rest))) : W p l e R s m args below meth c H locs cells slots Q (F0 m pc ls (.int i :: .ref a :: rest)) := va_lald hx hb hK (gP1 he) 0 2 rfl rfl hin hdg kk
theorem g_zald (hx : p.tables.exec = Jvm.exec) (hb : c.code = cc) (hK : va_K G.1 vwCl (gTys G) s) {n : Nat} {f : Nat → Int32} (he : gAt G a (.inl (G.2.1 3, n, .inl f)) H) {i : Int32} (hin : vp_in i n) (hdg : decode cc pc = .ok (.baload, 1))
    (kk : W p l e R s m args below meth c H locs cells slots Q (F0 m (pc + 1) ls (.int (f i.toNatClampNeg) :: rest))) : W p l e R s m args below meth c H locs cells slots Q (F0 m pc ls (.int i :: .ref a :: rest)) := va_zald hx hb hK (gP1 he) 0 3 rfl rfl hin hdg kk
theorem g_aald5 (hx : p.tables.exec = Jvm.exec) (hb : c.code = cc) (hK : va_K G.1 vwCl (gTys G) s) {n : Nat} {f : Nat → Option Nat} (he : gAt G a (.inl (G.2.1 5, n, .inr (.inr (.inr (.inr f))))) H) {i : Int32} {v : Value} (hin : vp_in i n) (hv : va_rf (f i.toNatClampNeg) = v) (hdg : decode cc pc = .ok (.aaload, 1))
    (kk : W p l e R s m args below meth c H locs cells slots Q (F0 m (pc + 1) ls (v :: rest))) : W p l e R s m args below meth c H locs cells slots Q (F0 m pc ls (.int i :: .ref a :: rest)) := by
  subst hv
  exact va_aldq hx hb hK (gP1 he) 0 5 rfl rfl hin hdg kk
theorem g_aald4 (hx : p.tables.exec = Jvm.exec) (hb : c.code = cc) (hK : va_K G.1 vwCl (gTys G) s) {n : Nat} {f : Nat → Option Nat} (he : gAt G a (.inl (G.2.1 4, n, .inr (.inr (.inr (.inr f))))) H) {i : Int32} {v : Value} (hin : vp_in i n) (hv : va_rf (f i.toNatClampNeg) = v) (hdg : decode cc pc = .ok (.aaload, 1))
    (kk : W p l e R s m args below meth c H locs cells slots Q (F0 m (pc + 1) ls (v :: rest))) : W p l e R s m args below meth c H locs cells slots Q (F0 m pc ls (.int i :: .ref a :: rest)) := by
  subst hv
  exact va_aldq hx hb hK (gP1 he) 0 4 rfl rfl hin hdg kk
theorem g_alen {cA : ClassId} {x : vp_A} (t0 : Nat) {ty : FieldType} (hx : p.tables.exec = Jvm.exec) (hb : c.code = cc) (hK : va_K G.1 vwCl (gTys G) s) (he : gAt G a (.inl (cA, x)) H) (ht : (gTys G)[t0]? = some (cA, ty)) {v : Int32} (hv : Int32.ofNat x.1 = v) (hdg : decode cc pc = .ok (.arraylength, 1))
    (kk : W p l e R s m args below meth c H locs cells slots Q (F0 m (pc + 1) ls (.int v :: rest))) : W p l e R s m args below meth c H locs cells slots Q (F0 m pc ls (.ref a :: rest)) := va_alen hx hb hK (gP1 he) 0 t0 rfl ht hv hdg kk
theorem g_iast (hx : p.tables.exec = Jvm.exec) (hb : c.code = cc) (hK : va_K G.1 vwCl (gTys G) s) (hS : va_S A H0 H locs) {n : Nat} {f : Nat → Int32} (he : gAt G a (.inl (G.2.1 0, n, .inl f)) H) {i : Int32} {x : Int32} (hin : vp_in i n) (hA : A a) (hdg : decode cc pc = .ok (.iastore, 1))
    (kk : ∀ (H1 : Heap) (locs1 : List Loc), gAt G a (.inl (G.2.1 0, n, .inl (upd f i.toNatClampNeg x))) H1 → (∀ q : Nat, q ≠ a → H1[q]? = H[q]?) → va_S A H0 H1 locs1 → W p l e R s m args below meth c H1 locs1 cells slots Q (F0 m (pc + 1) ls rest)) : W p l e R s m args below meth c H locs cells slots Q (F0 m pc ls (.int x :: .int i :: .ref a :: rest)) := by
  refine W.iast hx hb he ((hK.2 0 _ rfl).1 n (fun j => .int (f j))) (fun q => by cases q) (by show ¬ (i < 0 ∨ (arrV _ _ _).slots.size ≤ _); rw [arrV_size]; exact hin) rfl rfl hdg fun H1 e z oq => ?_
  refine kk H1 _ ?_ oq (hS.put z oq hA)
  show H1[a]? = some (vp_cell _ _)
  rw [e, vp_cell_i, vp_cell_i, arrV_store]
  congr 2
  funext q
  by_cases hq : q = i.toNatClampNeg
  · subst hq
    simp [updV, upd]
  · simp [updV, upd, hq]
theorem g_bast (hx : p.tables.exec = Jvm.exec) (hb : c.code = cc) (hK : va_K G.1 vwCl (gTys G) s) (hS : va_S A H0 H locs) {n : Nat} {f : Nat → Int32} (he : gAt G a (.inl (G.2.1 1, n, .inl f)) H) {i : Int32} {x : Int32} (hin : vp_in i n) (hA : A a) (hdg : decode cc pc = .ok (.bastore, 1))
    (kk : ∀ (H1 : Heap) (locs1 : List Loc), gAt G a (.inl (G.2.1 1, n, .inl (upd f i.toNatClampNeg (vp_nar .byte x)))) H1 → (∀ q : Nat, q ≠ a → H1[q]? = H[q]?) → va_S A H0 H1 locs1 → W p l e R s m args below meth c H1 locs1 cells slots Q (F0 m (pc + 1) ls rest)) : W p l e R s m args below meth c H locs cells slots Q (F0 m pc ls (.int x :: .int i :: .ref a :: rest)) := by
  refine W.bast hx hb he ((hK.2 1 _ rfl).1 n (fun j => .int (f j))) (fun q => by cases q) (by show ¬ (i < 0 ∨ (arrV _ _ _).slots.size ≤ _); rw [arrV_size]; exact hin) rfl rfl hdg fun H1 e z oq => ?_
  refine kk H1 _ ?_ oq (hS.put z oq hA)
  show H1[a]? = some (vp_cell _ _)
  rw [e, vp_cell_i, vp_cell_i, arrV_store]
  congr 2
  funext q
  by_cases hq : q = i.toNatClampNeg
  · subst hq
    simp [updV, upd, vp_nar]
    try rfl
  · simp [updV, upd, hq]
theorem g_zast (hx : p.tables.exec = Jvm.exec) (hb : c.code = cc) (hK : va_K G.1 vwCl (gTys G) s) (hS : va_S A H0 H locs) {n : Nat} {f : Nat → Int32} (he : gAt G a (.inl (G.2.1 3, n, .inl f)) H) {i : Int32} {x : Int32} (hin : vp_in i n) (hA : A a) (hdg : decode cc pc = .ok (.bastore, 1))
    (kk : ∀ (H1 : Heap) (locs1 : List Loc), gAt G a (.inl (G.2.1 3, n, .inl (upd f i.toNatClampNeg (vp_nar .boolean x)))) H1 → (∀ q : Nat, q ≠ a → H1[q]? = H[q]?) → va_S A H0 H1 locs1 → W p l e R s m args below meth c H1 locs1 cells slots Q (F0 m (pc + 1) ls rest)) : W p l e R s m args below meth c H locs cells slots Q (F0 m pc ls (.int x :: .int i :: .ref a :: rest)) := by
  refine W.zast hx hb he ((hK.2 3 _ rfl).1 n (fun j => .int (f j))) (fun q => by cases q) (by show ¬ (i < 0 ∨ (arrV _ _ _).slots.size ≤ _); rw [arrV_size]; exact hin) rfl rfl hdg fun H1 e z oq => ?_
  refine kk H1 _ ?_ oq (hS.put z oq hA)
  show H1[a]? = some (vp_cell _ _)
  rw [e, vp_cell_i, vp_cell_i, arrV_store]
  congr 2
  funext q
  by_cases hq : q = i.toNatClampNeg
  · subst hq
    simp [updV, upd, vp_nar]
    try rfl
  · simp [updV, upd, hq]
theorem g_last (hx : p.tables.exec = Jvm.exec) (hb : c.code = cc) (hK : va_K G.1 vwCl (gTys G) s) (hS : va_S A H0 H locs) {n : Nat} {f : Nat → Int64} (he : gAt G a (.inl (G.2.1 2, n, .inr (.inl f))) H) {i : Int32} {x : Int64} (hin : vp_in i n) (hA : A a) (hdg : decode cc pc = .ok (.lastore, 1))
    (kk : ∀ (H1 : Heap) (locs1 : List Loc), gAt G a (.inl (G.2.1 2, n, .inr (.inl (vp_updL f i.toNatClampNeg x)))) H1 → (∀ q : Nat, q ≠ a → H1[q]? = H[q]?) → va_S A H0 H1 locs1 → W p l e R s m args below meth c H1 locs1 cells slots Q (F0 m (pc + 1) ls rest)) : W p l e R s m args below meth c H locs cells slots Q (F0 m pc ls (.long x :: .int i :: .ref a :: rest)) := by
  refine W.last hx hb he ((hK.2 2 _ rfl).1 n (fun j => .long (f j))) (fun q => by cases q) (by show ¬ (i < 0 ∨ (arrV _ _ _).slots.size ≤ _); rw [arrV_size]; exact hin) rfl rfl hdg fun H1 e z oq => ?_
  refine kk H1 _ ?_ oq (hS.put z oq hA)
  show H1[a]? = some (vp_cell _ _)
  rw [e, vp_cell_l, vp_cell_l, arrV_store]
  congr 2
  funext q
  by_cases hq : q = i.toNatClampNeg
  · subst hq
    simp [updV, vp_updL]
  · simp [updV, vp_updL, hq]
end GR
