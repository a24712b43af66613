/-! OUR OWN ROWS, more: rows copied by the machine, calls of a method that another one overrides, super.m(..) -/
section GK2
variable {p : Program} {l : Launch} {e : Env} {R : Room} {s : State} {m : MethodId} {args : Array Value} {below : List Frame} {meth : Method} {c : Code} {H : Heap} {locs : List Loc} {cells slots : Nat} {Q : State → Prop}
variable {cc : ByteArray} {pc : Nat} {ls : Array Slot} {rest : List Value} {G : gW} {A : Nat → Prop} {a : Nat} {H0 : Heap}
theorem gNn {k : Nat} (h : k < 2147483648) : (nI k).toInt = (k : Int) := nI_toInt h
theorem g_cpi {own : String} {index nL : Nat} (t0 : Nat) {cA : ClassId} {ty : FieldType} {a0 n0 n1 i j k : Nat} {f g : Nat → Int32} {sp dp n : Int32} (hx : p.tables.exec = Jvm.exec) (hb : c.code = cc) (hml : c.maxLocals = nL) (hl : ls.size = nL) (hown : s.vm.findClass own = some m.cls) (hT : ∀ w ∈ gTW, w.before args s = true) (hK : va_K G.1 vwCl (gTys G) s) (hS : va_S A H0 H locs) (wm : Cond.methodLink own index arraycopyName ∈ gTW)
    (ht : (gTys G)[t0]? = some (cA, ty)) (hp : refKind ty = false) (he0 : gAt G a0 (.inl (cA, n0, .inl f)) H) (he : gAt G a (.inl (cA, n1, .inl g)) H) (hi : sp = nI i) (hj : dp = nI j) (hk : n = nI k) (h4 : i + k ≤ n0) (h5 : j + k ≤ n1) (hn0 : n0 ≤ 4096) (hn1 : n1 ≤ 4096) (hfit : ∀ q, q < k → fits ty (.int (f (i + q))) = true) (hA : A a)
    (hframes : 1 ≤ R.frames) (hlocals : (rest.map fun v => v.category).sum + (nativeFrameWords "java/lang/System" "arraycopy" 5 + 11) ≤ R.locals) (hdg : decode cc pc = .ok (.invokestatic index, 3))
    (kk : ∀ (H1 : Heap) (locs1 : List Loc), gAt G a (.inl (cA, n1, .inl (va_cpy f g i j k))) H1 → (∀ q : Nat, q ≠ a → H1[q]? = H[q]?) → va_S A H0 H1 locs1 → W p l e R s m args below meth c H1 locs1 cells slots Q (F0 m (pc + 3) ls rest)) : W p l e R s m args below meth c H locs cells slots Q (F0 m pc ls (.int n :: .int dp :: .ref a :: .int sp :: .ref a0 :: rest)) := by
  subst hi; subst hj; subst hk
  intro T hTh X
  have hc0 : H[a0]? = some (vp_cell cA (n0, .inl f)) := he0
  have hc1 : H[a]? = some (vp_cell cA (n1, .inl g)) := he
  obtain ⟨-, k0, hk0, cm0, hkk0⟩ := (hK.2 t0 _ ht).1 n0 (fun j => .int (f j))
  obtain ⟨-, k1, hk1, cm1, hkk1⟩ := (hK.2 t0 _ ht).1 n1 (fun j => .int (g j))
  have ei : (nI i).toNatClampNeg = i := nI_clamp (by omega)
  have ej : (nI j).toNatClampNeg = j := nI_clamp (by omega)
  have ek : (nI k).toNatClampNeg = k := nI_clamp (by omega)
  obtain ⟨vm', X', step⟩ := X.arraycopy hx hown (hT _ wm) (hT _ gx_397) (hT _ gt_arraycopyName) (hT _ gn_java_lang_System) (src := a0) (dst := a) (cs := vp_cell cA (n0, .inl f)) (cd := vp_cell cA (n1, .inl g)) (srcPos := nI i) (destPos := nI j) (n := nI k) (by rw [hTh]; exact hc0) (by rw [hTh]; exact hc1)
    (fun _ h => by cases h) (fun _ h => by cases h) (fun h => by cases h) (fun h => by cases h) hk0 hk1 hkk0 hkk1 (by simp [hp]) (nI_pos (by omega)) (nI_pos (by omega)) (nI_pos (by omega))
    (by rw [gNn (by omega), gNn (by omega)]; show ¬ _ > ((arrV cA n0 (fun j => .int (f j))).slots.size : Int); rw [arrV_size]; omega)
    (by rw [gNn (by omega), gNn (by omega)]; show ¬ _ > ((arrV cA n1 (fun j => .int (g j))).slots.size : Int); rw [arrV_size]; omega)
    (fun vm₁ _ q hq => by
      rw [ek] at hq
      rw [ei]
      have e : (vp_cell cA (n0, .inl f)).slots.getD (i + q) .null = .int (f (i + q)) := by
        show (arrV cA n0 (fun j => .int (f j))).slots.getD _ _ = _
        rw [Array.getD_eq_getD_getElem?, arrV_read _ _ (by omega)]
        rfl
      rw [e]
      exact ⟨hfit q hq, trivial⟩)
    (g := F0 m pc ls (.int (nI k) :: .int (nI j) :: .ref a :: .int (nI i) :: .ref a0 :: rest)) rfl (by rw [hml]; exact hl) (rest := rest) rfl (by rw [hb]; exact hdg) hframes (by show 2 * 0 + _ + _ ≤ _; omega)
  have e1 : copied (vp_cell cA (n0, .inl f)) (vp_cell cA (n1, .inl g)) (nI i) (nI j) (nI k) = vp_cell cA (n1, .inl (va_cpy f g i j k)) := by
    have z := va_copied (fun z => .int z) cA cA (n0 := n0) (n1 := n1) (sp := i) (dp := j) (n := k) f g h4
    show (vp_cell cA (n1, .inl g)).storeRun (nI j).toNatClampNeg ((vp_cell cA (n0, .inl f)).stretch (nI i).toNatClampNeg (nI k).toNatClampNeg) = _
    rw [ei, ej, ek]
    exact z
  rw [e1] at X' step
  have hlt : a < H.size := (Array.getElem?_eq_some_iff.mp hc1).1
  have hheap : ((T.setVm vm').setCell a (vp_cell cA (n1, .inl (va_cpy f g i j k)))).heap = H.setIfInBounds a (vp_cell cA (n1, .inl (va_cpy f g i j k))) := by rw [← hTh]; rfl
  have oq : ∀ q : Nat, q ≠ a → (H.setIfInBounds a (vp_cell cA (n1, .inl (va_cpy f g i j k))))[q]? = H[q]? := fun q hq => by simp [Array.getElem?_setIfInBounds, Ne.symm hq]
  obtain ⟨t, a1, b1⟩ := kk _ _ (show (H.setIfInBounds a _)[a]? = some _ by simp [Array.getElem?_setIfInBounds, hlt]) oq ⟨by simp; exact hS.1, fun q g1 g2 => by
      rw [oq q (fun e => g2 (by rw [e]; exact hA))]
      exact hS.2.1 q g1 g2, fun q hq => by
      rcases List.mem_append.mp hq with h | h
      · exact hS.2.2 q h
      · obtain ⟨z, -, hz⟩ := List.mem_map.mp h
        rw [← hz]
        exact hA⟩ _ hheap X'
  exact ⟨t, step t a1, b1⟩
theorem g_cpl {own : String} {index nL : Nat} {a0 n0 n1 i j k : Nat} {f g : Nat → Int64} {sp dp n : Int32} (hx : p.tables.exec = Jvm.exec) (hb : c.code = cc) (hml : c.maxLocals = nL) (hl : ls.size = nL) (hown : s.vm.findClass own = some m.cls) (hT : ∀ w ∈ gTW, w.before args s = true) (hK : va_K G.1 vwCl (gTys G) s) (hS : va_S A H0 H locs) (wm : Cond.methodLink own index arraycopyName ∈ gTW)
    (he0 : gAt G a0 (.inl (G.2.1 2, n0, .inr (.inl f))) H) (he : gAt G a (.inl (G.2.1 2, n1, .inr (.inl g))) H) (hi : sp = nI i) (hj : dp = nI j) (hk : n = nI k) (h4 : i + k ≤ n0) (h5 : j + k ≤ n1) (hn0 : n0 ≤ 4096) (hn1 : n1 ≤ 4096) (hA : A a)
    (hframes : 1 ≤ R.frames) (hlocals : (rest.map fun v => v.category).sum + (nativeFrameWords "java/lang/System" "arraycopy" 5 + 11) ≤ R.locals) (hdg : decode cc pc = .ok (.invokestatic index, 3))
    (kk : ∀ (H1 : Heap) (locs1 : List Loc), gAt G a (.inl (G.2.1 2, n1, .inr (.inl (va_cpy f g i j k)))) H1 → (∀ q : Nat, q ≠ a → H1[q]? = H[q]?) → va_S A H0 H1 locs1 → W p l e R s m args below meth c H1 locs1 cells slots Q (F0 m (pc + 3) ls rest)) : W p l e R s m args below meth c H locs cells slots Q (F0 m pc ls (.int n :: .int dp :: .ref a :: .int sp :: .ref a0 :: rest)) := by
  subst hi; subst hj; subst hk
  intro T hTh X
  have hc0 : H[a0]? = some (vp_cell (G.2.1 2) (n0, .inr (.inl f))) := he0
  have hc1 : H[a]? = some (vp_cell (G.2.1 2) (n1, .inr (.inl g))) := he
  obtain ⟨-, k0, hk0, cm0, hkk0⟩ := (hK.2 2 _ rfl).1 n0 (fun j => .long (f j))
  obtain ⟨-, k1, hk1, cm1, hkk1⟩ := (hK.2 2 _ rfl).1 n1 (fun j => .long (g j))
  have ei : (nI i).toNatClampNeg = i := nI_clamp (by omega)
  have ej : (nI j).toNatClampNeg = j := nI_clamp (by omega)
  have ek : (nI k).toNatClampNeg = k := nI_clamp (by omega)
  obtain ⟨vm', X', step⟩ := X.arraycopy hx hown (hT _ wm) (hT _ gx_397) (hT _ gt_arraycopyName) (hT _ gn_java_lang_System) (src := a0) (dst := a) (cs := vp_cell (G.2.1 2) (n0, .inr (.inl f))) (cd := vp_cell (G.2.1 2) (n1, .inr (.inl g))) (srcPos := nI i) (destPos := nI j) (n := nI k) (by rw [hTh]; exact hc0) (by rw [hTh]; exact hc1)
    (fun _ h => by cases h) (fun _ h => by cases h) (fun h => by cases h) (fun h => by cases h) hk0 hk1 hkk0 hkk1 (by simp [refKind]) (nI_pos (by omega)) (nI_pos (by omega)) (nI_pos (by omega))
    (by rw [gNn (by omega), gNn (by omega)]; show ¬ _ > ((arrV (G.2.1 2) n0 (fun j => .long (f j))).slots.size : Int); rw [arrV_size]; omega)
    (by rw [gNn (by omega), gNn (by omega)]; show ¬ _ > ((arrV (G.2.1 2) n1 (fun j => .long (g j))).slots.size : Int); rw [arrV_size]; omega)
    (fun vm₁ _ q hq => by
      rw [ek] at hq
      rw [ei]
      have e : (vp_cell (G.2.1 2) (n0, .inr (.inl f))).slots.getD (i + q) .null = .long (f (i + q)) := by
        show (arrV (G.2.1 2) n0 (fun j => .long (f j))).slots.getD _ _ = _
        rw [Array.getD_eq_getD_getElem?, arrV_read _ _ (by omega)]
        rfl
      rw [e]
      exact ⟨rfl, trivial⟩)
    (g := F0 m pc ls (.int (nI k) :: .int (nI j) :: .ref a :: .int (nI i) :: .ref a0 :: rest)) rfl (by rw [hml]; exact hl) (rest := rest) rfl (by rw [hb]; exact hdg) hframes (by show 2 * 0 + _ + _ ≤ _; omega)
  have e1 : copied (vp_cell (G.2.1 2) (n0, .inr (.inl f))) (vp_cell (G.2.1 2) (n1, .inr (.inl g))) (nI i) (nI j) (nI k) = vp_cell (G.2.1 2) (n1, .inr (.inl (va_cpy f g i j k))) := by
    have z := va_copied (fun z => .long z) (G.2.1 2) (G.2.1 2) (n0 := n0) (n1 := n1) (sp := i) (dp := j) (n := k) f g h4
    show (vp_cell (G.2.1 2) (n1, .inr (.inl g))).storeRun (nI j).toNatClampNeg ((vp_cell (G.2.1 2) (n0, .inr (.inl f))).stretch (nI i).toNatClampNeg (nI k).toNatClampNeg) = _
    rw [ei, ej, ek]
    exact z
  rw [e1] at X' step
  have hlt : a < H.size := (Array.getElem?_eq_some_iff.mp hc1).1
  have hheap : ((T.setVm vm').setCell a (vp_cell (G.2.1 2) (n1, .inr (.inl (va_cpy f g i j k))))).heap = H.setIfInBounds a (vp_cell (G.2.1 2) (n1, .inr (.inl (va_cpy f g i j k)))) := by rw [← hTh]; rfl
  have oq : ∀ q : Nat, q ≠ a → (H.setIfInBounds a (vp_cell (G.2.1 2) (n1, .inr (.inl (va_cpy f g i j k)))))[q]? = H[q]? := fun q hq => by simp [Array.getElem?_setIfInBounds, Ne.symm hq]
  obtain ⟨t, a1, b1⟩ := kk _ _ (show (H.setIfInBounds a _)[a]? = some _ by simp [Array.getElem?_setIfInBounds, hlt]) oq ⟨by simp; exact hS.1, fun q g1 g2 => by
      rw [oq q (fun e => g2 (by rw [e]; exact hA))]
      exact hS.2.1 q g1 g2, fun q hq => by
      rcases List.mem_append.mp hq with h | h
      · exact hS.2.2 q h
      · obtain ⟨z, -, hz⟩ := List.mem_map.mp h
        rw [← hz]
        exact hA⟩ _ hheap X'
  exact ⟨t, step t a1, b1⟩
theorem gCpy_f {α : Type} {f g : Nat → α} {n : Nat} : ∀ j, j < n → va_cpy f g 0 0 n j = f j := fun j hj => by
  unfold va_cpy
  rw [if_pos ⟨Nat.zero_le _, by omega⟩]
  congr 1
  omega
variable {own : String} {x y : MethodName} {bytes : ByteArray} {maxL nL n index ci N : Nat} {C : String} {T : u_T} {ret : Option FieldType} {rm : Room} {b : Nat} {As st fs : List Value} {P : Heap → Prop} {Qc : Array Value → State → Outcome → State → Prop} {A1 : Nat → Prop}
/-- a virtual call: x is named, y runs -/
theorem g_runW (hx : p.tables.exec = Jvm.exec) (hb : c.code = cc) (hml : c.maxLocals = nL) (hown : s.vm.findClass own = some m.cls) (hE : gEF G s) (hT : ∀ w ∈ gTW, w.before args s = true)
    (hC : Met l y [Cond.code y bytes maxL ret] rm (gPre G (.ref b :: As) P) Qc 0 0 A1) (hM : gMi y bytes maxL ret n) (wm : Cond.methodLink own index x ∈ gTW) (wi : Cond.instanceMethod y ∈ gTW) (ws : Cond.selects C x y ∈ gTW)
    (wsm : Cond.sameMethod x.cls x.cls x.name x.desc ∈ gTW) (wx : Cond.instanceMethod x ∈ gTW) {b0 : ByteArray} {m0 : Nat} {r0 : Option FieldType} (wc : Cond.code x b0 m0 r0 ∈ gTW) (hd : x.cls ≠ "java/lang/invoke/MethodHandle" ∧ x.cls ≠ "java/lang/invoke/VarHandle" ∧ (parseMethodDescriptor x.desc).map (fun d => d.parameters.length) = some n)
    (hc : vwCl[ci]? = some (C, T, N)) (he : gAt G b (.inr (ci, fs)) H) (hP : P H) (hn : As.length = n) (hl : ls.size = nL) (hrm : rm.cells = 0 ∧ rm.slots = 0) (hroom : rm.frames + 1 ≤ R.frames ∧ 8 + (maxL + 11) + rm.locals ≤ R.locals) (hcs : cells ≤ R.cells ∧ slots ≤ R.slots)
    (hst : st = As.reverse ++ .ref b :: rest) (hW : (rest.map fun v => v.category).sum ≤ 8) (hdg : decode cc pc = .ok (.invokevirtual index, 3)) :
    va_Run p l e R s m args below meth c H locs cells slots 0 0 (F0 m pc ls st) rest (Qc (Value.ref b :: As).toArray) A1 :=
  va_runU (As := As) (rest := rest) (C := C) (owner := x.cls) (x := x) ⟨hx, hb, hml, hown, hT⟩ hC
    ⟨⟨hrm.1, hrm.2, hroom.1, hroom.2, pay_in hT (fun w hw => by rw [List.mem_singleton.mp hw]; exact ⟨hM.1, gTW_word hM.1⟩), List.mem_singleton.mpr rfl⟩, hT _ hM.1, hT _ hM.2.1, ⟨hd.1, hd.2.1⟩, fun sig h => by
      have h2 := hd.2.2
      rw [h] at h2
      exact (Option.some.inj h2).symm, hT _ wm, hT _ wsm, va_Decl.of (hT _ wx) (hT _ wc), hT _ ws, hT _ wi⟩
    ⟨gBlind, va_recv hE.2.1 (gP1 he) hc (q0 := 0) rfl, fun U hU hW => ⟨rfl, gEF_warm hW hE, by rw [hU]; exact hP⟩⟩ rfl hn hl hst (lv_room hW) hdg hcs
theorem gSub_up {vm : Vm} {a b : ClassId} {k : Class} (h : vm.classes[a]? = some k) (hs : k.super = some b) : vm.isSubclass a b = true := by
  have hl : a < vm.classes.size := (Array.getElem?_eq_some_iff.mp h).1
  unfold Vm.isSubclass
  obtain ⟨z, hz⟩ : ∃ z, vm.classes.size = z + 1 := ⟨vm.classes.size - 1, (Nat.succ_pred_eq_of_pos (Nat.lt_of_le_of_lt (Nat.zero_le _) hl)).symm⟩
  rw [hz]
  simp [Vm.isSubclassAux, h, hs]
/-- super.m(..): x is named, of the class right above; y runs, x itself or what x's class inherits -/
theorem g_runP (hx : p.tables.exec = Jvm.exec) (hb : c.code = cc) (hml : c.maxLocals = nL) (hown : s.vm.findClass own = some m.cls) (hE : gEF G s) (hT : ∀ w ∈ gTW, w.before args s = true)
    (hC : Met l y [Cond.code y bytes maxL ret] rm (gPre G (.ref b :: As) P) Qc 0 0 A1) (hM : gMi y bytes maxL ret n) (wm : Cond.methodLink own index x ∈ gTW) (wi : Cond.instanceMethod y ∈ gTW) (wsm : Cond.sameMethod x.cls y.cls x.name x.desc ∈ gTW) (wsu : Cond.superclass own x.cls ∈ gTW) (hyx : y = ⟨y.cls, x.name, x.desc⟩) (hup : x.cls = y.cls ∨ Cond.superclass x.cls y.cls ∈ gTW) (hno : x.name ≠ "<init>")
    (hc : vwCl[ci]? = some (C, T, N)) (he : gAt G b (.inr (ci, fs)) H) (hP : P H) (hn : As.length = n) (hl : ls.size = nL) (hrm : rm.cells = 0 ∧ rm.slots = 0) (hroom : rm.frames + 1 ≤ R.frames ∧ 8 + (maxL + 11) + rm.locals ≤ R.locals) (hcs : cells ≤ R.cells ∧ slots ≤ R.slots)
    (hst : st = As.reverse ++ .ref b :: rest) (hW : (rest.map fun v => v.category).sum ≤ 8) (hdg : decode cc pc = .ok (.invokespecial index, 3)) :
    va_Run p l e R s m args below meth c H locs cells slots 0 0 (F0 m pc ls st) rest (Qc (Value.ref b :: As).toArray) A1 := by
  have hK : Back l R p e below s args y 3 8 (PreOf R 0 0 (gPre G (.ref b :: As) P)) (PostOf Qc 0 0 A1) := back_of (bytes := bytes) (maxL := maxL) (ret := ret) hC gBlind hrm.1 hrm.2 hroom.1 hroom.2 (pay_in hT (fun w hw => by rw [List.mem_singleton.mp hw]; exact ⟨hM.1, gTW_word hM.1⟩)) (List.mem_singleton.mpr rfl) (fun a' U hW => word_at hW (Or.inl (by first | rfl | simp [Cond.onTables, Cond.keeps, Cond.steady])) (hT _ hM.2.1))
  obtain ⟨mk, methM, hnamed, hmethM, hstM, habM⟩ := Cond.instanceMethod_spec (hT _ wi)
  obtain ⟨methM', cM, hmethM', -, -, -, -, -, -, hsigM⟩ := Cond.code_spec hnamed (hT _ hM.1)
  cases hmethM.symm.trans hmethM'
  obtain ⟨ps, dk, kp, hps, hdk, hkp, hsuper, -, -, hnid⟩ := Cond.superclass_spec hown (hT _ wsu)
  have hpy : s.vm.findClass y.cls = some mk.cls := findClass_of_methodNamed hnamed
  have hsub : s.vm.isSubclass ps mk.cls = true := by
    rcases hup with h | h
    · have : ps = mk.cls := Option.some.inj (hps.symm.trans (by rw [h]; exact hpy))
      rw [this]
      simp [Vm.isSubclass, Vm.isSubclassAux]
    · obtain ⟨ps2, dk2, -, hps2, hdk2, -, hsuper2, -⟩ := Cond.superclass_spec hps (hT _ h)
      have : ps2 = mk.cls := Option.some.inj (hps2.symm.trans hpy)
      rw [← this]
      exact gSub_up hdk2 hsuper2
  have hn1 : s.methodNamed? ⟨y.cls, x.name, x.desc⟩ = some mk := by rw [← hyx]; exact hnamed
  obtain ⟨cellB, hcB, hoB, hclB⟩ := va_recv hE.2.1 (gP1 he) hc (q0 := 0) rfl
  obtain ⟨-, hfc, kB, hkB, -⟩ := hE.2.1.1 ci _ hc
  have hkB2 : s.vm.classes[cellB.cls]? = some kB := by
    have e9 := Option.some.inj (hclB.symm.trans hfc)
    rw [e9]
    exact hkB
  have hlen : As.length = methM.sig.parameters.length := by
    have h2 := hM.2.2.2.2
    rw [hsigM] at h2
    rw [hn]
    exact (Option.some.inj h2).symm
  intro T1 hT1 X
  obtain ⟨vm₁, X₁, hstep₁⟩ := X.invokespecialUp hx hown (hT _ wm) (hT _ wsm) hn1 hmethM hstM habM hno hdk hnid hps hsuper hsub (a := b) (cell := cellB) (by rw [hT1]; exact hcB)
    (fun z h => by rw [h] at hoB; cases hoB) hkB2 (g := F0 m pc ls st) rfl (argsL := As) (rest := rest) hlen hst (by rw [hb]; exact hdg)
  obtain ⟨v, ⟨U', l2, c2, s2⟩, X', ⟨g', mk', t, L, e1, e2, hq, h1, hL, h2, h3⟩, hsteps⟩ := hK m meth c ⟨T1.setVm vm₁, locs, cells, slots⟩ { (F0 m pc ls st) with stack := rest } (.invokespecial index) mk (Value.ref b :: As).toArray X₁ rfl (by show ls.size = _; rw [hml]; exact hl) (by rw [hb]; exact hdg) (lv_room hW) (X₁.named hnamed) ⟨hcs.1, hcs.2, rfl, gEF_warm X₁.warmed hE, by show P (T1.setVm vm₁).heap; rw [show (T1.setVm vm₁).heap = T1.heap from rfl, hT1]; exact hP⟩
  dsimp only [Pt.U, Pt.locs, Pt.cells, Pt.slots] at X' e1 e2 h1 h2 h3 hsteps
  subst h1; subst h2; subst h3
  exact ⟨v, (T1.setVm vm₁).calling g' mk' (Value.ref b :: As).toArray, t, U', L, hT1, X', hL, e1, e2, hq, fun target h => hstep₁ _ (by rw [doInvoke_state]; exact hsteps.trans h)⟩
end GK2
