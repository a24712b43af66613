/-! OUR OWN ROWS, calls: contracts that make no cell; what comes back is said of the heap. -/
abbrev gQi (Qr : Int32 → Heap → Prop) (A : Nat → Prop) : Array Value → State → Outcome → State → Prop := va_Qi (fun (r u : Int32) => r = u) (fun (u : Int32) (t : State) => Qr u t.heap) A
abbrev gQl (Qr : Int64 → Heap → Prop) (A : Nat → Prop) : Array Value → State → Outcome → State → Prop := va_Ql (fun (r u : Int64) => r = u) (fun (u : Int64) (t : State) => Qr u t.heap) A
abbrev gQv (Qh : Heap → Prop) (A : Nat → Prop) : Array Value → State → Outcome → State → Prop := va_Qv (fun (_ : Unit) => True) (fun (_ : Unit) (t : State) => Qh t.heap) A
abbrev gCI (l : Launch) (y : MethodName) (cc : ByteArray) (n : Nat) (ret : FieldType) (rm : Room) (G : gW) (av : List Value) (P : Heap → Prop) (Qr : Int32 → Heap → Prop) (A : Nat → Prop) : Prop := Met l y [Cond.code y cc n (some ret)] rm (gPre G av P) (gQi Qr A) 0 0 A
abbrev gCL (l : Launch) (y : MethodName) (cc : ByteArray) (n : Nat) (rm : Room) (G : gW) (av : List Value) (P : Heap → Prop) (Qr : Int64 → Heap → Prop) (A : Nat → Prop) : Prop := Met l y [Cond.code y cc n (some .long)] rm (gPre G av P) (gQl Qr A) 0 0 A
abbrev gCV (l : Launch) (y : MethodName) (cc : ByteArray) (n : Nat) (rm : Room) (G : gW) (av : List Value) (P : Heap → Prop) (Qh : Heap → Prop) (A : Nat → Prop) : Prop := Met l y [Cond.code y cc n none] rm (gPre G av P) (gQv Qh A) 0 0 A
/-- a room of frames and locals' words alone -/
abbrev gRm (f w : Nat) : Room := { frames := f, cells := 0, slots := 0, locals := w }
/-- what the tables have of a method, instance (i) or static (s) -/
def gMi (y : MethodName) (bytes : ByteArray) (maxL : Nat) (ret : Option FieldType) (n : Nat) : Prop := Cond.code y bytes maxL ret ∈ gTW ∧ Cond.initialized y.cls ∈ gTW ∧ (y.cls ≠ "java/lang/invoke/MethodHandle" ∧ y.cls ≠ "java/lang/invoke/VarHandle" ∧ (parseMethodDescriptor y.desc).map (fun d => d.parameters.length) = some n)
theorem gBlind {G : gW} {av : List Value} {P : Heap → Prop} : FrameBlind (gPre G av P) := fun _ U _ _ q => ⟨q.1, gEF_warm (s := U) (State.WarmedH.refl U) q.2.1, q.2.2⟩
section GC
variable {p : Program} {l : Launch} {e : Env} {R : Room} {s : State} {m : MethodId} {args : Array Value} {below : List Frame} {meth : Method} {c : Code} {H : Heap} {locs : List Loc} {cells slots : Nat} {Q : State → Prop}
variable {cc : ByteArray} {pc : Nat} {ls : Array Slot} {rest : List Value} {G : gW} {A0 A1 : Nat → Prop} {H0 : Heap}
variable {own : String} {y : MethodName} {bytes : ByteArray} {maxL nL n index ci N : Nat} {T : u_T} {ret : Option FieldType} {rm : Room} {b : Nat} {As st fs : List Value} {P : Heap → Prop} {Qc : Array Value → State → Outcome → State → Prop}
theorem g_cb (hT : ∀ w ∈ gTW, w.before args s = true) (hM : gMi y bytes maxL ret n) (wm : Cond.methodLink own index y ∈ gTW) (hrm : rm.cells = 0 ∧ rm.slots = 0) (hroom : rm.frames + 1 ≤ R.frames ∧ 8 + (maxL + 11) + rm.locals ≤ R.locals) : CallB R s args own index y bytes maxL ret [Cond.code y bytes maxL ret] rm 0 0 n :=
  callB_of n hT (fun w hw => by rw [List.mem_singleton.mp hw]; exact ⟨hM.1, gTW_word hM.1⟩) rfl hrm.1 hrm.2 (hT _ hM.2.1) (hT _ wm) hM.2.2 hroom
theorem g_runV (hx : p.tables.exec = Jvm.exec) (hb : c.code = cc) (hml : c.maxLocals = nL) (hown : s.vm.findClass own = some m.cls) (hE : gEF G s) (hT : ∀ w ∈ gTW, w.before args s = true)
    (hC : Met l y [Cond.code y bytes maxL ret] rm (gPre G (.ref b :: As) P) Qc 0 0 A1) (hM : gMi y bytes maxL ret n) (wm : Cond.methodLink own index y ∈ gTW) (wi : Cond.instanceMethod y ∈ gTW) (ws : Cond.selects y.cls y y ∈ gTW)
    (hc : vwCl[ci]? = some (y.cls, T, N)) (he : gAt G b (.inr (ci, fs)) H) (hP : P H) (hn : As.length = n) (hl : ls.size = nL) (hrm : rm.cells = 0 ∧ rm.slots = 0) (hroom : rm.frames + 1 ≤ R.frames ∧ 8 + (maxL + 11) + rm.locals ≤ R.locals) (hcs : cells ≤ R.cells ∧ slots ≤ R.slots)
    (hst : st = As.reverse ++ .ref b :: rest) (hW : (rest.map fun v => v.category).sum ≤ 8) (hdg : decode cc pc = .ok (.invokevirtual index, 3)) :
    va_Run p l e R s m args below meth c H locs cells slots 0 0 (F0 m pc ls st) rest (Qc (Value.ref b :: As).toArray) A1 :=
  va_runV (As := As) (rest := rest) (C := y.cls) ⟨hx, hb, hml, hown, hT⟩ hC ⟨g_cb hT hM wm hrm hroom, hT _ wi, hT _ ws⟩ ⟨gBlind, va_recv hE.2.1 (gP1 he) hc (q0 := 0) rfl, fun U hU hW => ⟨rfl, gEF_warm hW hE, by rw [hU]; exact hP⟩⟩ rfl hn hl hst (lv_room hW) hdg hcs
theorem g_runS (hx : p.tables.exec = Jvm.exec) (hb : c.code = cc) (hml : c.maxLocals = nL) (hown : s.vm.findClass own = some m.cls) (hE : gEF G s) (hT : ∀ w ∈ gTW, w.before args s = true)
    (hC : Met l y [Cond.code y bytes maxL ret] rm (gPre G As P) Qc 0 0 A1) (hM : gMi y bytes maxL ret n) (wm : Cond.methodLink own index y ∈ gTW) (wt : Cond.static y ∈ gTW)
    (hP : P H) (hn : As.length = n) (hl : ls.size = nL) (hrm : rm.cells = 0 ∧ rm.slots = 0) (hroom : rm.frames + 1 ≤ R.frames ∧ 8 + (maxL + 11) + rm.locals ≤ R.locals) (hcs : cells ≤ R.cells ∧ slots ≤ R.slots)
    (hst : st = As.reverse ++ rest) (hW : (rest.map fun v => v.category).sum ≤ 8) (hdg : decode cc pc = .ok (.invokestatic index, 3)) :
    va_Run p l e R s m args below meth c H locs cells slots 0 0 (F0 m pc ls st) rest (Qc As.toArray) A1 :=
  va_runS (As := As) (rest := rest) ⟨hx, hb, hml, hown, hT⟩ hC ⟨g_cb hT hM wm hrm hroom, hT _ wt⟩ ⟨gBlind, fun U hU hW => ⟨rfl, gEF_warm hW hE, by rw [hU]; exact hP⟩⟩ rfl hn hl hst (lv_room hW) hdg hcs
theorem g_ki {Qr : Int32 → Heap → Prop} {a : Array Value} (hr : va_Run p l e R s m args below meth c H locs cells slots 0 0 (F0 m pc ls st) rest (gQi Qr A1 a) A1) (hS : va_S A0 H0 H locs) (hA : ∀ q, A1 q → A0 q)
    (kk : ∀ (r : Int32) (H1 : Heap) (locs1 : List Loc), Qr r H1 → (∀ q : Nat, q < H.size → ¬ A1 q → H1[q]? = H[q]?) → va_S A0 H0 H1 locs1 → W p l e R s m args below meth c H1 locs1 cells slots Q (F0 m (pc + 3) ls (.int r :: rest))) : W p l e R s m args below meth c H locs cells slots Q (F0 m pc ls st) :=
  va_calli hr hS (fun q _ h => hA q h) hA fun r u t H1 locs1 ht _ hp hB _ hk hS1 => by
    subst hp
    subst ht
    exact kk r t.heap locs1 hB hk hS1
theorem g_kl {Qr : Int64 → Heap → Prop} {a : Array Value} (hr : va_Run p l e R s m args below meth c H locs cells slots 0 0 (F0 m pc ls st) rest (gQl Qr A1 a) A1) (hS : va_S A0 H0 H locs) (hA : ∀ q, A1 q → A0 q)
    (kk : ∀ (r : Int64) (H1 : Heap) (locs1 : List Loc), Qr r H1 → (∀ q : Nat, q < H.size → ¬ A1 q → H1[q]? = H[q]?) → va_S A0 H0 H1 locs1 → W p l e R s m args below meth c H1 locs1 cells slots Q (F0 m (pc + 3) ls (.long r :: rest))) : W p l e R s m args below meth c H locs cells slots Q (F0 m pc ls st) :=
  va_calll hr hS (fun q _ h => hA q h) hA fun r u t H1 locs1 ht _ hp hB _ hk hS1 => by
    subst hp
    subst ht
    exact kk r t.heap locs1 hB hk hS1
theorem g_kv {Qh : Heap → Prop} {a : Array Value} (hr : va_Run p l e R s m args below meth c H locs cells slots 0 0 (F0 m pc ls st) rest (gQv Qh A1 a) A1) (hS : va_S A0 H0 H locs) (hA : ∀ q, A1 q → A0 q)
    (kk : ∀ (H1 : Heap) (locs1 : List Loc), Qh H1 → (∀ q : Nat, q < H.size → ¬ A1 q → H1[q]? = H[q]?) → va_S A0 H0 H1 locs1 → W p l e R s m args below meth c H1 locs1 cells slots Q (F0 m (pc + 3) ls rest)) : W p l e R s m args below meth c H locs cells slots Q (F0 m pc ls st) :=
  va_callv hr hS (fun q _ h => hA q h) hA fun u t H1 locs1 ht _ hp hB _ hk hS1 => by
    subst ht
    exact kk t.heap locs1 hB hk hS1
end GC
section GE
variable {p : Program} {l : Launch} {e : Env} {R : Room} {s : State} {m : MethodId} {args : Array Value} {below : List Frame} {meth : Method} {c : Code} {H : Heap} {locs : List Loc} {cells slots : Nat}
variable {cc : ByteArray} {pc : Nat} {ls : Array Slot} {A : Nat → Prop}
theorem g_iret {Qr : Int32 → Heap → Prop} {v : Int32} (hx : p.tables.exec = Jvm.exec) (hb : c.code = cc) (hr : meth.sig.returnType = some .int) (hlk : meth.locks = false) (hS : va_S A s.heap H locs) (hdg : decode cc pc = .ok (.ireturn, 1)) (hQ : Qr v H) : W p l e R s m args below meth c H locs cells slots (MQ below (gQi Qr A) args s cells slots A) (F0 m pc ls [.int v]) :=
  W.iret hx hb hr (fun t ht _ => ⟨⟨v, v, rfl, rfl, by subst ht; exact hQ⟩, hS.F ht⟩) hS.2.2 hdg hlk
theorem g_zret {Qr : Int32 → Heap → Prop} {v : Int32} {ty : FieldType} (hx : p.tables.exec = Jvm.exec) (hb : c.code = cc) (hr : meth.sig.returnType = some ty) (hlk : meth.locks = false) (hn : narrow ty (.int v) = .int v) (hS : va_S A s.heap H locs) (hdg : decode cc pc = .ok (.ireturn, 1)) (hQ : Qr v H) : W p l e R s m args below meth c H locs cells slots (MQ below (gQi Qr A) args s cells slots A) (F0 m pc ls [.int v]) :=
  W.zret hx hb hr hn (fun t ht _ => ⟨⟨v, v, rfl, rfl, by subst ht; exact hQ⟩, hS.F ht⟩) hS.2.2 hdg hlk
theorem g_lret {Qr : Int64 → Heap → Prop} {v : Int64} (hx : p.tables.exec = Jvm.exec) (hb : c.code = cc) (hr : meth.sig.returnType = some .long) (hlk : meth.locks = false) (hS : va_S A s.heap H locs) (hdg : decode cc pc = .ok (.lreturn, 1)) (hQ : Qr v H) : W p l e R s m args below meth c H locs cells slots (MQ below (gQl Qr A) args s cells slots A) (F0 m pc ls [.long v]) :=
  W.lret hx hb hr (fun t ht _ => ⟨⟨v, v, rfl, rfl, by subst ht; exact hQ⟩, hS.F ht⟩) hS.2.2 hdg hlk
theorem g_vret {Qh : Heap → Prop} (hx : p.tables.exec = Jvm.exec) (hb : c.code = cc) (hr : meth.sig.returnType = none) (hlk : meth.locks = false) (hS : va_S A s.heap H locs) (hdg : decode cc pc = .ok (.return_, 1)) (hQ : Qh H) : W p l e R s m args below meth c H locs cells slots (MQ below (gQv Qh A) args s cells slots A) (F0 m pc ls []) :=
  W.vret hx hb hr (fun t ht _ => ⟨⟨(), rfl, trivial, by subst ht; exact hQ⟩, hS.F ht⟩) hS.2.2 hdg hlk
end GE
/-- an int that says yes or no -/
def gB (P : Prop) [Decidable P] : Int32 := if P then 1 else 0
theorem gB_t {P : Prop} [Decidable P] (h : P) : gB P = 1 := if_pos h
theorem gB_f {P : Prop} [Decidable P] (h : ¬ P) : gB P = 0 := if_neg h
theorem gB_0 {P : Prop} [Decidable P] : gB P = 0 ↔ ¬ P := by
  unfold gB
  split <;> simp_all
theorem gB_1 {P : Prop} [Decidable P] : ¬ gB P = 0 ↔ P := by
  unfold gB
  split <;> simp_all
theorem gB_n {P : Prop} [Decidable P] : narrow .boolean (.int (gB P)) = .int (gB P) := by
  unfold gB
  split <;> rfl
theorem gAdd {x y : Int32} {a b : Nat} (hx : x = nI a) (hy : y = nI b) : x + y = nI (a + b) := by rw [hx, hy, nI_add]
theorem gMul {x y : Int32} {a b : Nat} (hx : x = nI a) (hy : y = nI b) : x * y = nI (a * b) := by rw [hx, hy, pk_mul]
theorem gSub {x y : Int32} {a b : Nat} (hx : x = nI a) (hy : y = nI b) (h : b ≤ a) : x - y = nI (a - b) := by rw [hx, hy, pk_sub h]
theorem gIn {i : Int32} {j n : Nat} (hi : i = nI j) (hj : j < n) (hn : n ≤ 4096) : vp_in i n := by rw [hi]; exact vp_in_nI hj (by omega)
theorem gCl {i : Int32} {j n : Nat} (hi : i = nI j) (hj : j < n) (hn : n ≤ 4096) : i.toNatClampNeg = j := by rw [hi]; exact nI_clamp (by omega)
section GA
variable {p : Program} {l : Launch} {e : Env} {R : Room} {s : State} {m : MethodId} {args : Array Value} {below : List Frame} {meth : Method} {c : Code} {H : Heap} {locs : List Loc} {cells slots : Nat} {Q : State → Prop}
variable {cc : ByteArray} {pc : Nat} {ls : Array Slot} {rest : List Value} {G : gW} {A : Nat → Prop} {a : Nat} {H0 : Heap} {n : Nat} {i : Int32}
theorem g_ia {f : Nat → Int32} (j : Nat) {v : Int32} (hx : p.tables.exec = Jvm.exec) (hb : c.code = cc) (hK : va_K G.1 vwCl (gTys G) s) (he : gAt G a (.inl (G.2.1 0, n, .inl f)) H) (hi : i = nI j) (hj : j < n) (hn : n ≤ 4096) (hv : f j = v) (hdg : decode cc pc = .ok (.iaload, 1))
    (kk : W p l e R s m args below meth c H locs cells slots Q (F0 m (pc + 1) ls (.int v :: rest))) : W p l e R s m args below meth c H locs cells slots Q (F0 m pc ls (.int i :: .ref a :: rest)) := g_iald hx hb hK he (gIn hi hj hn) hdg (by rw [gCl hi hj hn, hv]; exact kk)
theorem g_ba {f : Nat → Int32} (j : Nat) {v : Int32} (hx : p.tables.exec = Jvm.exec) (hb : c.code = cc) (hK : va_K G.1 vwCl (gTys G) s) (he : gAt G a (.inl (G.2.1 1, n, .inl f)) H) (hi : i = nI j) (hj : j < n) (hn : n ≤ 4096) (hv : f j = v) (hdg : decode cc pc = .ok (.baload, 1))
    (kk : W p l e R s m args below meth c H locs cells slots Q (F0 m (pc + 1) ls (.int v :: rest))) : W p l e R s m args below meth c H locs cells slots Q (F0 m pc ls (.int i :: .ref a :: rest)) := g_bald hx hb hK he (gIn hi hj hn) hdg (by rw [gCl hi hj hn, hv]; exact kk)
theorem g_za {f : Nat → Int32} (j : Nat) {v : Int32} (hx : p.tables.exec = Jvm.exec) (hb : c.code = cc) (hK : va_K G.1 vwCl (gTys G) s) (he : gAt G a (.inl (G.2.1 3, n, .inl f)) H) (hi : i = nI j) (hj : j < n) (hn : n ≤ 4096) (hv : f j = v) (hdg : decode cc pc = .ok (.baload, 1))
    (kk : W p l e R s m args below meth c H locs cells slots Q (F0 m (pc + 1) ls (.int v :: rest))) : W p l e R s m args below meth c H locs cells slots Q (F0 m pc ls (.int i :: .ref a :: rest)) := g_zald hx hb hK he (gIn hi hj hn) hdg (by rw [gCl hi hj hn, hv]; exact kk)
theorem g_la {f : Nat → Int64} (j : Nat) {v : Int64} (hx : p.tables.exec = Jvm.exec) (hb : c.code = cc) (hK : va_K G.1 vwCl (gTys G) s) (he : gAt G a (.inl (G.2.1 2, n, .inr (.inl f))) H) (hi : i = nI j) (hj : j < n) (hn : n ≤ 4096) (hv : f j = v) (hdg : decode cc pc = .ok (.laload, 1))
    (kk : W p l e R s m args below meth c H locs cells slots Q (F0 m (pc + 1) ls (.long v :: rest))) : W p l e R s m args below meth c H locs cells slots Q (F0 m pc ls (.int i :: .ref a :: rest)) := g_lald hx hb hK he (gIn hi hj hn) hdg (by rw [gCl hi hj hn, hv]; exact kk)
theorem g_aa5 {f : Nat → Option Nat} (j : Nat) {v : Value} (hx : p.tables.exec = Jvm.exec) (hb : c.code = cc) (hK : va_K G.1 vwCl (gTys G) s) (he : gAt G a (.inl (G.2.1 5, n, .inr (.inr (.inr (.inr f))))) H) (hi : i = nI j) (hj : j < n) (hn : n ≤ 4096) (hv : va_rf (f j) = v) (hdg : decode cc pc = .ok (.aaload, 1))
    (kk : W p l e R s m args below meth c H locs cells slots Q (F0 m (pc + 1) ls (v :: rest))) : W p l e R s m args below meth c H locs cells slots Q (F0 m pc ls (.int i :: .ref a :: rest)) := g_aald5 hx hb hK he (gIn hi hj hn) (by rw [gCl hi hj hn]; exact hv) hdg kk
theorem g_aa4 {f : Nat → Option Nat} (j : Nat) {v : Value} (hx : p.tables.exec = Jvm.exec) (hb : c.code = cc) (hK : va_K G.1 vwCl (gTys G) s) (he : gAt G a (.inl (G.2.1 4, n, .inr (.inr (.inr (.inr f))))) H) (hi : i = nI j) (hj : j < n) (hn : n ≤ 4096) (hv : va_rf (f j) = v) (hdg : decode cc pc = .ok (.aaload, 1))
    (kk : W p l e R s m args below meth c H locs cells slots Q (F0 m (pc + 1) ls (v :: rest))) : W p l e R s m args below meth c H locs cells slots Q (F0 m pc ls (.int i :: .ref a :: rest)) := g_aald4 hx hb hK he (gIn hi hj hn) (by rw [gCl hi hj hn]; exact hv) hdg kk
theorem g_is {f : Nat → Int32} (j : Nat) {x : Int32} (hx : p.tables.exec = Jvm.exec) (hb : c.code = cc) (hK : va_K G.1 vwCl (gTys G) s) (hS : va_S A H0 H locs) (he : gAt G a (.inl (G.2.1 0, n, .inl f)) H) (hi : i = nI j) (hj : j < n) (hn : n ≤ 4096) (hA : A a) (hdg : decode cc pc = .ok (.iastore, 1))
    (kk : ∀ (H1 : Heap) (locs1 : List Loc), gAt G a (.inl (G.2.1 0, n, .inl (upd f j x))) H1 → (∀ q : Nat, q ≠ a → H1[q]? = H[q]?) → va_S A H0 H1 locs1 → W p l e R s m args below meth c H1 locs1 cells slots Q (F0 m (pc + 1) ls rest)) : W p l e R s m args below meth c H locs cells slots Q (F0 m pc ls (.int x :: .int i :: .ref a :: rest)) := g_iast hx hb hK hS he (gIn hi hj hn) hA hdg (by rw [gCl hi hj hn]; exact kk)
theorem g_bs {f : Nat → Int32} (j : Nat) {x : Int32} (hx : p.tables.exec = Jvm.exec) (hb : c.code = cc) (hK : va_K G.1 vwCl (gTys G) s) (hS : va_S A H0 H locs) (he : gAt G a (.inl (G.2.1 1, n, .inl f)) H) (hi : i = nI j) (hj : j < n) (hn : n ≤ 4096) (hA : A a) (hdg : decode cc pc = .ok (.bastore, 1))
    (kk : ∀ (H1 : Heap) (locs1 : List Loc), gAt G a (.inl (G.2.1 1, n, .inl (upd f j (vp_nar .byte x)))) H1 → (∀ q : Nat, q ≠ a → H1[q]? = H[q]?) → va_S A H0 H1 locs1 → W p l e R s m args below meth c H1 locs1 cells slots Q (F0 m (pc + 1) ls rest)) : W p l e R s m args below meth c H locs cells slots Q (F0 m pc ls (.int x :: .int i :: .ref a :: rest)) := g_bast hx hb hK hS he (gIn hi hj hn) hA hdg (by rw [gCl hi hj hn]; exact kk)
theorem g_zs {f : Nat → Int32} (j : Nat) {x : Int32} (hx : p.tables.exec = Jvm.exec) (hb : c.code = cc) (hK : va_K G.1 vwCl (gTys G) s) (hS : va_S A H0 H locs) (he : gAt G a (.inl (G.2.1 3, n, .inl f)) H) (hi : i = nI j) (hj : j < n) (hn : n ≤ 4096) (hA : A a) (hdg : decode cc pc = .ok (.bastore, 1))
    (kk : ∀ (H1 : Heap) (locs1 : List Loc), gAt G a (.inl (G.2.1 3, n, .inl (upd f j (vp_nar .boolean x)))) H1 → (∀ q : Nat, q ≠ a → H1[q]? = H[q]?) → va_S A H0 H1 locs1 → W p l e R s m args below meth c H1 locs1 cells slots Q (F0 m (pc + 1) ls rest)) : W p l e R s m args below meth c H locs cells slots Q (F0 m pc ls (.int x :: .int i :: .ref a :: rest)) := g_zast hx hb hK hS he (gIn hi hj hn) hA hdg (by rw [gCl hi hj hn]; exact kk)
theorem g_ls {f : Nat → Int64} (j : Nat) {x : Int64} (hx : p.tables.exec = Jvm.exec) (hb : c.code = cc) (hK : va_K G.1 vwCl (gTys G) s) (hS : va_S A H0 H locs) (he : gAt G a (.inl (G.2.1 2, n, .inr (.inl f))) H) (hi : i = nI j) (hj : j < n) (hn : n ≤ 4096) (hA : A a) (hdg : decode cc pc = .ok (.lastore, 1))
    (kk : ∀ (H1 : Heap) (locs1 : List Loc), gAt G a (.inl (G.2.1 2, n, .inr (.inl (vp_updL f j x)))) H1 → (∀ q : Nat, q ≠ a → H1[q]? = H[q]?) → va_S A H0 H1 locs1 → W p l e R s m args below meth c H1 locs1 cells slots Q (F0 m (pc + 1) ls rest)) : W p l e R s m args below meth c H locs cells slots Q (F0 m pc ls (.long x :: .int i :: .ref a :: rest)) := g_last hx hb hK hS he (gIn hi hj hn) hA hdg (by rw [gCl hi hj hn]; exact kk)
end GA
