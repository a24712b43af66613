/-! STRINGS: the literals and the JDK's methods over them -/
def gChr (i k : Nat) : Int32 := (gByt.getD i []).getD k 0
theorem gLen_le : ∀ i : Nat, i < 8 → gLen.getD i 0 ≤ 6 := by decide
theorem gChr_c : ∀ i : Nat, i < 8 → ∀ k : Nat, k < gLen.getD i 0 → ((gChr i k &&& 255).toUInt32 % 65536).toInt32 = gChr i k := by decide +kernel
theorem gChr_n : ∀ i : Nat, i < 8 → ∀ k : Nat, k < gLen.getD i 0 → narrow .char (.int (gChr i k)) = .int (gChr i k) := fun i hi k hk => by
  have e := gChr_c i hi k hk
  show Value.int ((gChr i k).toUInt32 % 65536).toInt32 = _
  revert e
  revert i k
  decide +kernel
theorem gI2b : ∀ x : Nat, x < 128 → (nI x).toInt8.toInt32 = nI x := by decide +kernel
theorem gShr0 (x : Int32) : x >>> ((0 : Int32) &&& 31) = x := by
  rw [show ((0 : Int32) &&& 31) = 0 from by decide]
  exact Int32.shiftRight_zero
/-- indexOf: the first place from k on, of d -/
def gIxo (i x : Nat) (k : Nat) : Nat → Int32
  | 0 => -1
  | d + 1 => if gChr i k = nI x then nI k else gIxo i x (k + 1) d
theorem gOld_S {G : gW} {A : Nat → Prop} {H0 H : Heap} {locs : List Loc} (hO : gOld G H0) (hS : va_S A H0 H locs) (hA : ∀ q, A q → G.2.2.2.size ≤ q) : gOld G H := fun a ha => by
  have e := hO a ha
  have hl : a < H0.size := by
    rw [Array.getElem?_eq_getElem ha] at e
    exact (Array.getElem?_eq_some_iff.mp e).1
  rw [hS.2.1 a hl (fun z => absurd (hA a z) (by omega))]
  exact e
section GJ
variable {p : Program} {l : Launch} {e : Env} {R : Room} {s : State} {m : MethodId} {args : Array Value} {below : List Frame} {meth : Method} {c : Code} {H : Heap} {locs : List Loc} {cells slots : Nat} {Q : State → Prop}
variable {cc : ByteArray} {pc : Nat} {ls : Array Slot} {rest : List Value} {G : gW} {A0 A1 : Nat → Prop} {H0 : Heap}
variable {own : String} {y : MethodName} {bytes : ByteArray} {maxL nL n index : Nat} {ret : Option FieldType} {rm : Room} {b : Nat} {As st : List Value} {P : Heap → Prop} {Qc : Array Value → State → Outcome → State → Prop}
theorem gJ_recv {i : Nat} (hJ : gJs G s s.heap) (hi : i < 8) (hO : gOld G s.heap) {A : Nat → Prop} (hS : va_S A s.heap H locs) (hA : ∀ q, A q → G.2.2.2.size ≤ q) (hE : gEF G s) : ∃ cell : Cell, H[G.2.2.1 i]? = some cell ∧ cell.vm.isStatics = false ∧ s.vm.findClass "java/lang/String" = some cell.cls := by
  obtain ⟨cell, h1, h2, h3, -⟩ := ((hE.2.2.2.2.2.2.now (gOld_S hO hS hA)).1.1 i hi).1
  exact ⟨cell, h1, h2, h3⟩
theorem g_runJ (hx : p.tables.exec = Jvm.exec) (hb : c.code = cc) (hml : c.maxLocals = nL) (hown : s.vm.findClass own = some m.cls) (hE : gEF G s) (hT : ∀ w ∈ gTW, w.before args s = true)
    (hC : Met l y [Cond.code y bytes maxL ret] rm (gPre G (.ref b :: As) P) Qc 0 0 A1) (hM : gMi y bytes maxL ret n) (wm : Cond.methodLink own index y ∈ gTW) (wi : Cond.instanceMethod y ∈ gTW) (ws : Cond.selects y.cls y y ∈ gTW)
    (hr : ∃ cell : Cell, H[b]? = some cell ∧ cell.vm.isStatics = false ∧ s.vm.findClass y.cls = some cell.cls) (hP : P H) (hn : As.length = n) (hl : ls.size = nL) (hrm : rm.cells = 0 ∧ rm.slots = 0) (hroom : rm.frames + 1 ≤ R.frames ∧ 8 + (maxL + 11) + rm.locals ≤ R.locals) (hcs : cells ≤ R.cells ∧ slots ≤ R.slots)
    (hst : st = As.reverse ++ .ref b :: rest) (hW : (rest.map fun v => v.category).sum ≤ 8) (hdg : decode cc pc = .ok (.invokevirtual index, 3)) :
    va_Run p l e R s m args below meth c H locs cells slots 0 0 (F0 m pc ls st) rest (Qc (Value.ref b :: As).toArray) A1 :=
  va_runV (As := As) (rest := rest) (C := y.cls) ⟨hx, hb, hml, hown, hT⟩ hC ⟨g_cb hT hM wm hrm hroom, hT _ wi, hT _ ws⟩ ⟨gBlind, hr, fun U hU hW => ⟨rfl, gEF_warm hW hE, by rw [hU]; exact hP⟩⟩ rfl hn hl hst (lv_room hW) hdg hcs
end GJ
theorem gLen_p : ∀ i : Nat, i < 8 → 0 < gLen.getD i 0 := by decide
