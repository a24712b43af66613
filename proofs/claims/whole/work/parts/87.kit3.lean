/-! OUR OWN ROWS, constructors: new objects and arrays at known addresses -/
/-- with what tells of the arrays of objects -/
def gEF2 (G : gW) (U : State) : Prop := gEF G U ∧ va_AO RX5 U ∧ va_AO RX7 U ∧ (Cond.arrayOver (.array .long)).before #[] U = true
theorem gEF2_warm {G : gW} {s U : State} (hW : s.WarmedH U.vm) (h : gEF2 G s) : gEF2 G U :=
  ⟨gEF_warm hW h.1, h.2.1.moved hW.alike, h.2.2.1.moved hW.alike, over_moved hW.alike h.2.2.2⟩
abbrev gPre2 (G : gW) (av : List Value) (P : Heap → Prop) : Array Value → State → Prop := va_Pc av (fun U => gEF2 G U ∧ P U.heap)
theorem gBlind2 {G : gW} {av : List Value} {P : Heap → Prop} : FrameBlind (gPre2 G av P) := fun _ U _ _ q => ⟨q.1, gEF2_warm (s := U) (State.WarmedH.refl U) q.2.1, q.2.2⟩
abbrev gRm4 (f w mc ms : Nat) : Room := { frames := f, cells := mc, slots := ms, locals := w }
/-- a constructor's contract -/
abbrev gCN2 (l : Launch) (y : MethodName) (cc : ByteArray) (n : Nat) (f w mc ms : Nat) (G : gW) (av : List Value) (P : Heap → Prop) (Qh : Heap → Prop) (A : Nat → Prop) : Prop := Met l y [Cond.code y cc n none] (gRm4 f w mc ms) (gPre2 G av P) (gQv Qh A) mc ms A
set_option maxHeartbeats 4000000 in
theorem g_start2 {l : Launch} {y : MethodName} {cc : ByteArray} {n : Nat} {ret : Option FieldType} {rm : Room} {G : gW} {av : List Value} {P : Heap → Prop} {Qc : Array Value → State → Outcome → State → Prop} {mc ms : Nat} {A : Nat → Prop} (hy : plainName y.cls = true) (hn : (lg_sl av).length ≤ n)
    (body : ∀ (p : Program) (e : Env) (s : State) (m : MethodId) (args : Array Value) (below : List Frame) (meth : Method) (c : Code) (ls : Array Slot) (Q : State → Prop), MQ below Qc args s mc ms A = Q → gCX p s m args meth c y cc n ret → gEF2 G s → P s.heap → lv_has ls n (lv_args 0 av) → W p l e rm s m args below meth c s.heap [] 0 0 Q (F0 m 0 ls [])) :
    Met l y [Cond.code y cc n ret] rm (gPre2 G av P) Qc mc ms A := by
  refine Met.ofW (cc := cc) (maxL := n) (ret := ret) (ws' := []) hy rfl ?_
  intro p e s m args below meth c s₁ B hml hv
  obtain ⟨rfl, hE, hP⟩ := hv
  have hl := lv_entry av (n := n) hn
  rw [lg_entry_eq]
  exact body p e s m _ below meth c _ _ rfl ⟨B.exec, B.bytes, B.returns, hml, findClass_of_methodNamed B.named, gTW_at hE.1.1, B.notSynchronized, (name_of_methodNamed B.named B.method).1⟩ hE hP hl
theorem gSg_1 {G : gW} {b : Nat} {x : va_E} {H : Heap} (h : gAt G b x H) : gSg G b [x] H := by
  intro k y hk
  cases k with
  | zero => cases hk; exact h
  | succ k => simp at hk
theorem gSg_app {G : gW} {b : Nat} {L M : List va_E} {H : Heap} (h1 : gSg G b L H) (h2 : gSg G (b + L.length) M H) : gSg G b (L ++ M) H := by
  intro k y hk
  by_cases z : k < L.length
  · rw [List.getElem?_append_left z] at hk
    exact h1 k y hk
  · rw [List.getElem?_append_right (by omega)] at hk
    have e := h2 _ y hk
    rw [show b + L.length + (k - L.length) = b + k by omega] at e
    exact e
theorem gSz {H H1 : Heap} {a b : Nat} (oq : ∀ q : Nat, q ≠ a → H1[q]? = H[q]?) (h1 : a < H1.size) (ha : a < H.size) (hs : H.size = b) : H1.size = b := by
  have e1 : H1[H.size]? = none := by rw [oq _ (by omega)]; simp
  have e2 : H1.size ≤ H.size := by simpa using e1
  by_cases z : H.size - 1 = a
  · omega
  · have e3 : H1[H.size - 1]? = H[H.size - 1]? := oq _ z
    have e4 : H1[H.size - 1]? ≠ none := by rw [e3]; simp; omega
    have : H.size - 1 < H1.size := by
      rcases Nat.lt_or_ge (H.size - 1) H1.size with h | h
      · exact h
      · exact absurd (by simpa using h) e4
    omega
section GN
variable {p : Program} {l : Launch} {e : Env} {R : Room} {s : State} {m : MethodId} {args : Array Value} {below : List Frame} {meth : Method} {c : Code} {H : Heap} {locs : List Loc} {cells slots : Nat} {Q : State → Prop}
variable {cc : ByteArray} {pc : Nat} {ls : Array Slot} {rest : List Value} {G : gW} {A : Nat → Prop} {a : Nat} {H0 : Heap}
theorem gS_grow {H1 : Heap} (hS : va_S A H0 H locs) (z : H1.size = H.size + 1) (o : ∀ q, q < H.size → H1[q]? = H[q]?) : va_S A H0 H1 locs := ⟨Nat.le_trans hS.1 (by omega), fun x h1 h2 => (o x (Nat.lt_of_lt_of_le h1 hS.1)).trans (hS.2.1 x h1 h2), hS.2.2⟩
theorem g_new {own C : String} {T : u_T} {N ci index : Nat} {ty : Nat → FieldType} {fs : List Value} {b : Nat} (hx : p.tables.exec = Jvm.exec) (hb : c.code = cc) (hown : s.vm.findClass own = some m.cls) (hT : ∀ w ∈ gTW, w.before args s = true) (hK : va_K G.1 vwCl (gTys G) s) (hS : va_S A H0 H locs) (wc : Cond.classLink own index C ∈ gTW) (wi : Cond.instantiable C N ∈ gTW) (wn : Cond.initialized C ∈ gTW) (hc : vwCl[ci]? = some (C, T, N)) (hlay : ∀ w ∈ u_ws C T N, w.before args s = true) (hty : ∀ k, k < N → parseFieldDescriptor (T k).2.2.1 = some (ty k)) (hfs : ∀ j, j < N → defaultValue (ty j) = vp_V fs j) (hcells : cells + 1 ≤ R.cells) (hslots : slots + N ≤ R.slots) (hsz : H.size = b) (hdg : decode cc pc = .ok (.new index, 3))
    (kk : ∀ H1 : Heap, gAt G b (.inr (ci, fs)) H1 → H1.size = b + 1 → (∀ q, q < b → H1[q]? = H[q]?) → va_S A H0 H1 locs → W p l e R s m args below meth c H1 locs (cells + 1) (slots + N) Q (F0 m (pc + 3) ls (.ref b :: rest))) : W p l e R s m args below meth c H locs cells slots Q (F0 m pc ls rest) := by
  subst hsz
  have hKn := hK.1 ci _ hc
  refine W.newcK hx hb hown (hT _ wc) (hT _ wi) (hT _ wn) rfl hdg hcells hslots hKn.2.1 rfl fun H1 kC hkC e1 z1 o1 => ?_
  exact kk H1 ⟨_, hc, (u_born ty hlay (fun _ h => h) hKn hkC e1 hty).to hfs⟩ z1 o1 (gS_grow hS z1 o1)
/-- newarray; t0: the place of the sort of arrays -/
theorem g_newa (t0 : Nat) {cA : ClassId} {atype : ArrayType} {n : Int32} {N b : Nat} {a0 : vp_A} (hx : p.tables.exec = Jvm.exec) (hb : c.code = cc) (hT : ∀ w ∈ gTW, w.before args s = true) (hK : va_K G.1 vwCl (gTys G) s) (hS : va_S A H0 H locs) (wa : Cond.arrayClass (newarray.typeOf atype) ∈ gTW) (ht : (gTys G)[t0]? = some (cA, newarray.typeOf atype)) (hr : va_RA s cA (newarray.typeOf atype) → s.vm.findClass ("[" ++ (newarray.typeOf atype).toString) = some cA) (ha : vp_cell cA a0 = arrV cA N (fun _ => defaultValue (newarray.typeOf atype))) (hn : ¬ n < 0) (hN : n.toNatClampNeg = N) (hbytes : N * componentBytes (newarray.typeOf atype) ≤ 536870912) (hcells : cells + 1 ≤ R.cells) (hslots : slots + N ≤ R.slots) (hsz : H.size = b) (hdg : decode cc pc = .ok (.newarray atype, 2))
    (kk : ∀ H1 : Heap, gAt G b (.inl (cA, a0)) H1 → H1.size = b + 1 → (∀ q, q < b → H1[q]? = H[q]?) → va_S A H0 H1 locs → W p l e R s m args below meth c H1 locs (cells + 1) (slots + N) Q (F0 m (pc + 2) ls (.ref b :: rest))) : W p l e R s m args below meth c H locs cells slots Q (F0 m pc ls (.int n :: rest)) := by
  subst hsz
  refine va_newaK hx hb (hT _ wa) rfl hdg rfl hn hN hbytes hcells hslots rfl fun H1 cA' e1 z1 o1 hAr hNm => ?_
  have ec : cA' = cA := Option.some.inj (hNm.symm.trans (hr (hK.2 t0 _ ht).2))
  subst ec
  exact kk H1 (show H1[H.size]? = some (vp_cell _ _) by rw [ha]; exact e1) z1 o1 (gS_grow hS z1 o1)
/-- anewarray of objects -/
theorem g_newr (t0 : Nat) {own C : String} {index : Nat} {cA : ClassId} {n : Int32} {N b : Nat} (hx : p.tables.exec = Jvm.exec) (hb : c.code = cc) (hown : s.vm.findClass own = some m.cls) (hT : ∀ w ∈ gTW, w.before args s = true) (hK : va_K G.1 vwCl (gTys G) s) (hS : va_S A H0 H locs) (hover : va_AO C s) (wc : Cond.classLink own index C ∈ gTW) (ht : (gTys G)[t0]? = some (cA, .object C)) (hn : ¬ n < 0) (hN : n.toNatClampNeg = N) (hbytes : N * 4 ≤ 536870912) (hcells : cells + 1 ≤ R.cells) (hslots : slots + N ≤ R.slots) (hsz : H.size = b) (hdg : decode cc pc = .ok (.anewarray index, 3))
    (kk : ∀ H1 : Heap, gAt G b (.inl (cA, N, .inr (.inr (.inr (.inr (fun _ => none)))))) H1 → H1.size = b + 1 → (∀ q, q < b → H1[q]? = H[q]?) → va_S A H0 H1 locs → W p l e R s m args below meth c H1 locs (cells + 1) (slots + N) Q (F0 m (pc + 3) ls (.ref b :: rest))) : W p l e R s m args below meth c H locs cells slots Q (F0 m pc ls (.int n :: rest)) := by
  subst hsz
  subst hN
  refine W.anew hx hb hown (hT _ wc) (va_AO.use hover) rfl hdg rfl hn hbytes hcells hslots fun cA' kA comp f1 f2 f3 f4 => ?_
  obtain ⟨kA2, comp2, g1, g2, g3, g4⟩ := (hK.2 t0 _ ht).2
  have ec : cA' = cA := Option.some.inj (f1.symm.trans g4)
  subst ec
  generalize hH1 : H.push ({ cls := cA', slots := Array.replicate n.toNatClampNeg .null, vm := .none } : Cell) = H1
  have z1 : H1.size = H.size + 1 := by rw [← hH1, Array.size_push]
  have e1 : H1[H.size]? = some (arrV cA' n.toNatClampNeg (fun _ => .null)) := by rw [← hH1, Array.getElem?_push_size, ← arrV_new]
  have o1 : ∀ q : Nat, q < H.size → H1[q]? = H[q]? := fun q hq => by rw [← hH1, Array.getElem?_push, if_neg (Nat.ne_of_lt hq)]
  exact kk H1 (show H1[H.size]? = some (vp_cell _ _) by rw [vp_cell_q]; exact e1) z1 o1 (gS_grow hS z1 o1)
theorem g_objI {own : String} {idx : Nat} {nL : Nat} (hx : p.tables.exec = Jvm.exec) (hb : c.code = cc) (hml : c.maxLocals = nL) (hl : ls.size = nL) (hown : s.vm.findClass own = some m.cls) (hT : ∀ w ∈ gTW, w.before args s = true) (wm : Cond.methodLink own idx objectInit ∈ gTW) (hframes : 1 ≤ R.frames) (hlocals : (rest.map fun v => v.category).sum + 12 ≤ R.locals) (hdg : decode cc pc = .ok (.invokespecial idx, 3))
    (kk : W p l e R s m args below meth c H locs cells slots Q (F0 m (pc + 3) ls rest)) : W p l e R s m args below meth c H locs cells slots Q (F0 m pc ls (.ref a :: rest)) :=
  W.objInit hx hb hown (hT _ wm) (hT _ gi_objectInit) (hT _ gc_objectInit) rfl (by show ls.size = _; rw [hml]; exact hl) rfl hdg hframes (by show 2 * 0 + _ + 12 ≤ _; omega) kk
/-- a final field, in a constructor -/
theorem g_putF {own C : String} {T : u_T} {N ci index : Nat} {ty0 : Nat → FieldType} (hx : p.tables.exec = Jvm.exec) (hb : c.code = cc) (hown : s.vm.findClass own = some m.cls) (hK : va_K G.1 vwCl (gTys G) s) (hS0 : va_S A H0 H locs) (hlay : ∀ w ∈ u_ws C T N, w.before args s = true) (hty : ∀ k, k < N → parseFieldDescriptor (T k).2.2.1 = some (ty0 k)) (hnm : ∀ a, a < N → ∀ b, b < N → a ≠ b → (T a).2.1 ≠ (T b).2.1) (hc : vwCl[ci]? = some (C, T, N)) {fs : List Value} (he : gAt G a (.inr (ci, fs)) H) (k : Nat) (hk : k < N) (hlink : (Cond.fieldLink own index (T k).1 (T k).2.1 (T k).2.2.1).before args s = true) (hfin : (T k).2.2.2 = true) (hin2 : meth.name = "<init>") (hdecl : (T k).1 = own) {v : Value} (hn : narrow (ty0 k) v = v) (hfit : fits (ty0 k) v = true) (hl : k < fs.length) (hA : A a) (hdg : decode cc pc = .ok (.putfield index, 3))
    (kk : ∀ (H1 : Heap) (locs1 : List Loc), gAt G a (.inr (ci, fs.set k v)) H1 → (∀ q : Nat, q ≠ a → H1[q]? = H[q]?) → va_S A H0 H1 locs1 → W p l e R s m args below meth c H1 locs1 cells slots Q (F0 m (pc + 3) ls rest)) : W p l e R s m args below meth c H locs cells slots Q (F0 m pc ls (v :: .ref a :: rest)) := by
  have hin : ∀ w ∈ u_ws C T N, w ∈ u_ws C T N := fun _ h => h
  have hap := va_apart (own := own) hlay hin ty0 hty hnm hK hc
  obtain ⟨r, h1, cell, q1, q2, q3, q4⟩ := he
  have hr : r = (C, T, N) := Option.some.inj (h1.symm.trans hc)
  subst hr
  obtain ⟨hS, hfc, kC, hkC, hkind⟩ := hK.1 ci _ hc
  obtain ⟨cf, kf, fi, f, hi, hsl⟩ := hS k hk
  have hlay1 := hlay _ (u_in_lay hk)
  unfold u_lay at hlay1
  rw [if_pos hfin] at hlay1
  have hst := (u_facts hfc hkC (u_lays hlay hin hk) hi).1
  have hcf : m.cls = cf := by
    obtain ⟨_, _, c', _, _, _, -, -, hf', -, -, -, hown2, -⟩ := Cond.laysFinal_spec hlay1
    have e1 : c' = cf := by
      have z := hi.symm.trans hf'
      simp at z
      exact z.1.symm
    rw [hdecl] at hown2
    rw [← e1]
    exact Option.some.inj (hown.symm.trans hown2)
  have h6 := u_fits hfc hkC hkind (Or.inr hlay1) hi (hty k hk) hn hfit
  refine W.putFinK hx hb hown hlink hi hst hcf hin2 (by rw [q2]; exact h6) q1 q3 (by rw [hsl]; exact k2_hasslot (q4 k hk)) rfl rfl hdg fun H' e1 e2 e3 => ?_
  rw [hsl] at e1 ⊢
  exact kk H' _ ⟨_, hc, t_OB.to (V := updV (vp_V fs) k v) ⟨_, e1, q2, q3, t_set q4 hap hk v⟩ (fun j _ => vp_updV_set hl v j)⟩ e3 (hS0.put e2 e3 hA)
/-- aastore of an object into a row of its class, or of one above -/
theorem g_aas (t0 : Nat) {C D : String} {T : u_T} {N ci n v j : Nat} {cA : ClassId} {i : Int32} {f : Nat → Option Nat} {vs : List Value} (hx : p.tables.exec = Jvm.exec) (hb : c.code = cc) (hE : gEF G s) (hS : va_S A H0 H locs) (ht : (gTys G)[t0]? = some (cA, .object D)) (he : gAt G a (.inl (cA, n, .inr (.inr (.inr (.inr f))))) H) (hv : gAt G v (.inr (ci, vs)) H) (hc : vwCl[ci]? = some (C, T, N)) (hcast : (C, D) ∈ gCast) (hi : i = nI j) (hj : j < n) (hn : n ≤ 4096) (hA : A a) (hdg : decode cc pc = .ok (.aastore, 1))
    (kk : ∀ (H1 : Heap) (locs1 : List Loc), gAt G a (.inl (cA, n, .inr (.inr (.inr (.inr (va_up f j (some v))))))) H1 → (∀ q : Nat, q ≠ a → H1[q]? = H[q]?) → va_S A H0 H1 locs1 → W p l e R s m args below meth c H1 locs1 cells slots Q (F0 m (pc + 1) ls rest)) : W p l e R s m args below meth c H locs cells slots Q (F0 m pc ls (.ref v :: .int i :: .ref a :: rest)) := by
  have hin : vp_in i n := gIn hi hj hn
  have ej : i.toNatClampNeg = j := gCl hi hj hn
  have h0 : ¬ i < 0 := fun q => hin (Or.inl q)
  obtain ⟨r', hr', cellV, g1, g2, g3, -⟩ := hv
  have hr : r' = (C, T, N) := Option.some.inj (hr'.symm.trans hc)
  subst hr
  have hcls := (hE.2.1.1 ci _ hc).2
  obtain ⟨kA, comp, k1, k2, k3, -⟩ := (hE.2.1.2 t0 _ ht).2
  obtain ⟨c0, t1, f1, f2, f3⟩ := Cond.castable_spec (va_Nw.use (A := #[]) rfl (hE.2.2.2.1 (C, D) hcast))
  have e1 : comp = t1 := Option.some.inj (k3.symm.trans f2)
  have e2 : c0 = cellV.cls := by
    have := Option.some.inj (f1.symm.trans hcls.1)
    rw [this, g2]
  obtain ⟨kC, hkC, -⟩ := hcls.2
  obtain ⟨kD, hkD, -⟩ := Vm.findClass_spec k3
  refine W.aast hx hb he (fun q h => by cases h) (fun h => by cases h) k1 k2 rfl hkD ⟨h0, by show _ < (arrV _ _ _).slots.size; rw [arrV_size, ej]; exact hj⟩ g1 (fun q h => by rw [g3] at h; cases h) (by rw [g2]; exact hkC) (by rw [← e2, e1]; exact f3) rfl rfl hdg fun H1 e z oq => ?_
  refine kk H1 _ ?_ oq (hS.put z oq hA)
  show H1[a]? = some (vp_cell _ _)
  rw [e]
  rw [vp_cell_q, vp_cell_q, arrV_store]
  congr 2
  funext q
  rw [ej]
  by_cases hq : q = j
  · subst hq
    simp [updV, va_up, va_rf]
  · simp [updV, va_up, hq]
variable {own : String} {y : MethodName} {bytes : ByteArray} {maxL nL n index ci N : Nat} {rm : Room} {b mc ms : Nat} {As st : List Value} {P Qh : Heap → Prop} {A1 : Nat → Prop}
theorem g_runI (hx : p.tables.exec = Jvm.exec) (hb : c.code = cc) (hml : c.maxLocals = nL) (hown : s.vm.findClass own = some m.cls) (hE : gEF2 G s) (hT : ∀ w ∈ gTW, w.before args s = true)
    (hC : Met l y [Cond.code y bytes maxL none] rm (gPre2 G (.ref b :: As) P) (gQv Qh A1) mc ms A1) (hM : gMi y bytes maxL none n) (wm : Cond.methodLink own index y ∈ gTW) (wi : Cond.instanceMethod y ∈ gTW) (hyn : y.name = "<init>")
    (hP : P H) (hn : As.length = n) (hl : ls.size = nL) (hrm : rm.cells = mc ∧ rm.slots = ms) (hroom : rm.frames + 1 ≤ R.frames ∧ 8 + (maxL + 11) + rm.locals ≤ R.locals) (hcs : cells + mc ≤ R.cells ∧ slots + ms ≤ R.slots)
    (hst : st = As.reverse ++ .ref b :: rest) (hW : (rest.map fun v => v.category).sum ≤ 8) (hdg : decode cc pc = .ok (.invokespecial index, 3)) :
    va_Run p l e R s m args below meth c H locs cells slots mc ms (F0 m pc ls st) rest (gQv Qh A1 (Value.ref b :: As).toArray) A1 :=
  va_runI (As := As) (rest := rest) ⟨hx, hb, hml, hown, hT⟩ hC ⟨callB_of n hT (fun w hw => by rw [List.mem_singleton.mp hw]; exact ⟨hM.1, gTW_word hM.1⟩) rfl hrm.1 hrm.2 (hT _ hM.2.1) (hT _ wm) hM.2.2 hroom, hyn, hT _ wi⟩ ⟨gBlind2, fun U hU hW => ⟨rfl, gEF2_warm hW hE, by rw [hU]; exact hP⟩⟩ rfl hn hl hst (lv_room hW) hdg hcs
theorem g_runN {host : String} (hx : p.tables.exec = Jvm.exec) (hb : c.code = cc) (hml : c.maxLocals = nL) (hown : s.vm.findClass own = some m.cls) (hE : gEF2 G s) (hT : ∀ w ∈ gTW, w.before args s = true)
    (hC : Met l y [Cond.code y bytes maxL none] rm (gPre2 G (.ref b :: As) P) (gQv Qh A1) mc ms A1) (hM : gMi y bytes maxL none n) (wm : (own, index, y, host) ∈ gNest) (wi : Cond.instanceMethod y ∈ gTW) (hyn : y.name = "<init>")
    (hP : P H) (hn : As.length = n) (hl : ls.size = nL) (hrm : rm.cells = mc ∧ rm.slots = ms) (hroom : rm.frames + 1 ≤ R.frames ∧ 8 + (maxL + 11) + rm.locals ≤ R.locals) (hcs : cells + mc ≤ R.cells ∧ slots + ms ≤ R.slots)
    (hst : st = As.reverse ++ .ref b :: rest) (hW : (rest.map fun v => v.category).sum ≤ 8) (hdg : decode cc pc = .ok (.invokespecial index, 3)) :
    va_Run p l e R s m args below meth c H locs cells slots mc ms (F0 m pc ls st) rest (gQv Qh A1 (Value.ref b :: As).toArray) A1 :=
  va_runIN (As := As) (rest := rest) (host := host) ⟨hx, hb, hml, hown, hT⟩ hC ⟨⟨⟨hrm.1, hrm.2, hroom.1, hroom.2, pay_in hT (fun w hw => by rw [List.mem_singleton.mp hw]; exact ⟨hM.1, gTW_word hM.1⟩), List.mem_singleton.mpr rfl⟩, hT _ hM.1, hT _ hM.2.1, ⟨hM.2.2.1, hM.2.2.2.1⟩, fun sig h => by
      have h2 := hM.2.2.2.2
      rw [h] at h2
      exact (Option.some.inj h2).symm, va_Nw.use rfl (hE.1.2.2.1 (own, index, y, host) wm)⟩, hyn, hT _ wi⟩ ⟨gBlind2, fun U hU hW => ⟨rfl, gEF2_warm hW hE, by rw [hU]; exact hP⟩⟩ rfl hn hl hst (lv_room hW) hdg hcs
theorem g_kn {a : Array Value} (hr : va_Run p l e R s m args below meth c H locs cells slots mc ms (F0 m pc ls st) rest (gQv Qh A1 a) A1) (hS : va_S A H0 H locs) (hA : ∀ q, A1 q → A q)
    (kk : ∀ (H1 : Heap) (locs1 : List Loc), Qh H1 → (∀ q : Nat, q < H.size → ¬ A1 q → H1[q]? = H[q]?) → va_S A H0 H1 locs1 → W p l e R s m args below meth c H1 locs1 (cells + mc) (slots + ms) Q (F0 m (pc + 3) ls rest)) : W p l e R s m args below meth c H locs cells slots Q (F0 m pc ls st) :=
  va_callv hr hS (fun q _ h => hA q h) hA fun u t H1 locs1 ht _ hp hB _ hk hS1 => by
    subst ht
    exact kk t.heap locs1 hB hk hS1
end GN
