/-! ACTS, the class's way -/
def gTbs (f : gPS) (l : List Int32) : gPS := l.foldl gTb1 f
theorem gTb1_n {f : gPS} {x : Int32} {t : Nat} (h : f 1 0 = nI t) : (gTb1 f x) 1 0 = nI (t + 1) := by
  unfold gTb1
  rw [gU_e]
  exact gAdd h rfl
theorem gTbs_n : ∀ (l : List Int32) {f : gPS} {t : Nat}, f 1 0 = nI t → (gTbs f l) 1 0 = nI (t + l.length)
  | [], _, _, h => h
  | b :: l, f, t, h => by
    have e := gTbs_n l (gTb1_n (x := b) h)
    rw [show t + 1 + l.length = t + (b :: l).length by simp only [List.length_cons]; omega] at e
    exact e
theorem gTb1_j {f : gPS} {x : Int32} {j : Nat} (hj : j ≠ 0) : (gTb1 f x) 1 j = f 1 j := by
  unfold gTb1
  rw [gU_o hj]
  split
  · rw [gU_ne (by decide)]
  · rfl
theorem gTbs_j {j : Nat} (hj : j ≠ 0) : ∀ (l : List Int32) (f : gPS), (gTbs f l) 1 j = f 1 j
  | [], _ => rfl
  | b :: l, f => by
    have e := gTbs_j hj l (gTb1 f b)
    rw [gTb1_j hj] at e
    exact e
theorem gTb1_1 (f : gPS) (x : Int32) : (gTb1 f x) 1 1 = f 1 1 := gTb1_j (by decide)
theorem gTb1_2 (f : gPS) (x : Int32) : (gTb1 f x) 1 2 = f 1 2 := gTb1_j (by decide)
theorem gTbs_1 (f : gPS) (l : List Int32) : (gTbs f l) 1 1 = f 1 1 := gTbs_j (by decide) l f
theorem gTbs_2 (f : gPS) (l : List Int32) : (gTbs f l) 1 2 = f 1 2 := gTbs_j (by decide) l f
section GK3
variable {p : Program} {l : Launch} {e : Env} {R : Room} {s : State} {m : MethodId} {args : Array Value} {below : List Frame} {meth : Method} {c : Code} {H : Heap} {locs : List Loc} {cells slots : Nat} {Q : State → Prop}
variable {cc : ByteArray} {pc : Nat} {ls : Array Slot} {rest : List Value} {G : gW} {A : Nat → Prop} {a : Nat} {H0 : Heap}
variable {own : String} {x y z : MethodName} {bytes : ByteArray} {maxL nL n index ci N : Nat} {C : String} {T : u_T} {ret : Option FieldType} {rm : Room} {b : Nat} {As st fs : List Value} {P : Heap → Prop} {Qc : Array Value → State → Outcome → State → Prop} {A1 : Nat → Prop}
/-- a virtual call: x is named, z is what its class has of it, y runs -/
theorem g_runZ (hx : p.tables.exec = Jvm.exec) (hb : c.code = cc) (hml : c.maxLocals = nL) (hown : s.vm.findClass own = some m.cls) (hE : gEF G s) (hT : ∀ w ∈ gTW, w.before args s = true)
    (hC : Met l y [Cond.code y bytes maxL ret] rm (gPre G (.ref b :: As) P) Qc 0 0 A1) (hM : gMi y bytes maxL ret n) (wm : Cond.methodLink own index x ∈ gTW) (wi : Cond.instanceMethod y ∈ gTW) (ws : Cond.selects C x y ∈ gTW)
    (wsm : Cond.sameMethod x.cls z.cls x.name x.desc ∈ gTW) (hz : (⟨z.cls, x.name, x.desc⟩ : MethodName) = z) (wx : Cond.instanceMethod z ∈ gTW) {b0 : ByteArray} {m0 : Nat} {r0 : Option FieldType} (wc : Cond.code z b0 m0 r0 ∈ gTW) (hd : z.cls ≠ "java/lang/invoke/MethodHandle" ∧ z.cls ≠ "java/lang/invoke/VarHandle" ∧ (parseMethodDescriptor x.desc).map (fun d => d.parameters.length) = some n)
    (hc : vwCl[ci]? = some (C, T, N)) (he : gAt G b (.inr (ci, fs)) H) (hP : P H) (hn : As.length = n) (hl : ls.size = nL) (hrm : rm.cells = 0 ∧ rm.slots = 0) (hroom : rm.frames + 1 ≤ R.frames ∧ 8 + (maxL + 11) + rm.locals ≤ R.locals) (hcs : cells ≤ R.cells ∧ slots ≤ R.slots)
    (hst : st = As.reverse ++ .ref b :: rest) (hW : (rest.map fun v => v.category).sum ≤ 8) (hdg : decode cc pc = .ok (.invokevirtual index, 3)) :
    va_Run p l e R s m args below meth c H locs cells slots 0 0 (F0 m pc ls st) rest (Qc (Value.ref b :: As).toArray) A1 :=
  va_runU (As := As) (rest := rest) (C := C) (owner := z.cls) (x := x) ⟨hx, hb, hml, hown, hT⟩ hC
    ⟨⟨hrm.1, hrm.2, hroom.1, hroom.2, pay_in hT (fun w hw => by rw [List.mem_singleton.mp hw]; exact ⟨hM.1, gTW_word hM.1⟩), List.mem_singleton.mpr rfl⟩, hT _ hM.1, hT _ hM.2.1, ⟨hd.1, hd.2.1⟩, fun sig h => by
      have h2 := hd.2.2
      rw [h] at h2
      exact (Option.some.inj h2).symm, hT _ wm, hT _ wsm, by rw [hz]; exact va_Decl.of (hT _ wx) (hT _ wc), hT _ ws, hT _ wi⟩
    ⟨gBlind, va_recv hE.2.1 (gP1 he) hc (q0 := 0) rfl, fun U hU hW => ⟨rfl, gEF_warm hW hE, by rw [hU]; exact hP⟩⟩ rfl hn hl hst (lv_room hW) hdg hcs
end GK3
