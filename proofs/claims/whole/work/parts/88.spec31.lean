/-! more rows of the constructors -/
theorem gSg_pre {G : gW} {b : Nat} {L M : List va_E} {H : Heap} (h : gSg G b (L ++ M) H) : gSg G b L H := fun k y hk => h k y (by rw [List.getElem?_append_left (List.getElem?_eq_some_iff.mp hk).1]; exact hk)
theorem gSg_suf {G : gW} {b : Nat} {L M : List va_E} {H : Heap} (h : gSg G b (L ++ M) H) : gSg G (b + L.length) M H := fun k y hk => by
  have := h (L.length + k) y (by rw [List.getElem?_append_right (by omega), show L.length + k - L.length = k by omega]; exact hk)
  rw [← Nat.add_assoc] at this
  exact this
/-- a new Loft -/
def gFl0 : gPS := fun r => match r with
  | 5 => fun i => if i = 4 then 1 else 0
  | _ => fun _ => 0
/-- a new state -/
def gPi0 : gPS := fun r => match r with
  | 0 => upd (upd (upd (upd (upd (upd (upd (upd (upd (upd (upd (upd (fun _ => 0) 0 5) 1 5) 2 5) 3 5) 4 5) 5 5) 6 5) 7 5) 8 5) 9 5) 10 5) 11 5
  | 1 => upd (upd (upd (upd (upd (upd (upd (upd (upd (upd (upd (upd (fun _ => 0) 0 1) 1 2) 2 4) 3 8) 4 16) 5 32) 6 64) 7 128) 8 1) 9 2) 10 4) 11 8
  | 15 => fun i => if i = 6 then -1 else 0
  | _ => fun _ => 0
/-- new texts and tapes -/
def gMu0 : gPS := fun r => match r with
  | 2 => upd (upd (upd (upd (upd (upd (fun _ => 0) 0 (-1)) 1 (-1)) 2 (-1)) 3 (-1)) 4 (-1)) 5 (-1)
  | _ => fun _ => 0
theorem arrV_cong {c : ClassId} {N : Nat} {f g : Nat → Value} (h : ∀ j, j < N → f j = g j) : arrV c N f = arrV c N g := by
  unfold arrV
  congr 2
  funext j
  exact h j.val j.isLt
theorem gSg_ref {G : gW} {b : Nat} {L : List va_E} {H : Heap} (h : gSg G b L H) (k : Nat) {c : ClassId} {n : Nat} {f g : Nat → Option Nat} (hk : L[k]? = some (.inl (c, n, .inr (.inr (.inr (.inr f)))))) (he : ∀ j, j < n → f j = g j) : gSg G b (L.set k (.inl (c, n, .inr (.inr (.inr (.inr g)))))) H := by
  refine gSg_set h k ?_ (fun _ _ => rfl)
  have h1 : H[b + k]? = some (vp_cell c (n, .inr (.inr (.inr (.inr f))))) := h k _ hk
  show H[b + k]? = some (vp_cell c (n, .inr (.inr (.inr (.inr g)))))
  rw [h1, vp_cell_q, vp_cell_q, arrV_cong (fun j hj => by rw [he j hj])]
section GM
variable {p : Program} {l : Launch} {e : Env} {R : Room} {s : State} {m : MethodId} {args : Array Value} {below : List Frame} {meth : Method} {c : Code} {H : Heap} {locs : List Loc} {cells slots : Nat} {Q : State → Prop}
variable {cc : ByteArray} {pc : Nat} {ls : Array Slot} {rest : List Value} {G : gW} {A : Nat → Prop} {H0 : Heap}
theorem g_mna {own : String} {index b : Nat} {n k : Int32} {N K : Nat} (hx : p.tables.exec = Jvm.exec) (hb : c.code = cc) (hown : s.vm.findClass own = some m.cls) (hT : ∀ w ∈ gTW, w.before args s = true) (wc : Cond.classLink own index ("[" ++ (FieldType.array .long).toString) ∈ gTW) (wa : Cond.arrayClass .long ∈ gTW) (hE2 : gEF2 G s) (hS : va_S A H0 H locs) (hn : ¬ n < 0) (hk : ¬ k < 0) (hN : n.toNatClampNeg = N) (hM : k.toNatClampNeg = K)
    (hb1 : N * 4 ≤ 536870912) (hb2 : K * componentBytes .long ≤ 536870912) (hb3 : K ≤ 536870912) (hcells : cells + (1 + N) ≤ R.cells) (hslots : slots + (N + N * K) ≤ R.slots) (hsz : H.size = b) (hdg : decode cc pc = .ok (.multianewarray index 2, 4))
    (kk : ∀ H1 : Heap, gAt G b (.inl (G.2.1 6, N, .inr (.inr (.inr (.inr (fun i => if i < N then some (b + 1 + i) else none)))))) H1 → (∀ i, i < N → gAt G (b + 1 + i) (.inl (G.2.1 2, K, .inr (.inl (fun _ => 0)))) H1) → H1.size = b + 1 + N → (∀ q : Nat, q < b → H1[q]? = H[q]?) → va_S A H0 H1 locs →
      W p l e R s m args below meth c H1 locs (cells + 1 + N) (slots + N + N * K) Q (F0 m (pc + 4) ls (.ref b :: rest))) : W p l e R s m args below meth c H locs cells slots Q (F0 m pc ls (.int k :: .int n :: rest)) := by
  subst hsz
  subst hN
  subst hM
  intro T hTh Xs
  obtain ⟨vm₁, cA, comp, -, fA, fC, hO, hI, X', step⟩ := Xs.multianewarray2F hx hown (hT _ wc) (show (Cond.arrayOver (.array .long)).before args s = true from hE2.2.2.2) (hT _ wa) (g := F0 m pc ls (.int k :: .int n :: rest)) rfl (by rw [hb]; exact hdg) rfl hn hk hb1 hb2 hb3 rfl rfl hcells hslots
  have eA : G.2.1 6 = cA := Option.some.inj (((hE2.1.2.1.2 6 _ rfl).2 : s.vm.findClass ("[" ++ (FieldType.array .long).toString) = some (G.2.1 6)).symm.trans fA)
  have eC : G.2.1 2 = comp := Option.some.inj (((hE2.1.2.1.2 2 _ rfl).2 : s.vm.findClass ("[" ++ FieldType.long.toString) = some (G.2.1 2)).symm.trans fC)
  subst eA
  subst eC
  have hTh' : (T.setVm vm₁).heap = H := hTh
  generalize hF : Jvm.Free.Multi.fill (T.setVm vm₁) (G.2.1 6) (G.2.1 2) n.toNatClampNeg k.toNatClampNeg (defaultValue .long) n.toNatClampNeg = F at X' step
  obtain ⟨f1, f2, -, -⟩ := Jvm.Free.Multi.fill_facts (T.setVm vm₁) (G.2.1 6) (G.2.1 2) n.toNatClampNeg k.toNatClampNeg (defaultValue .long) n.toNatClampNeg
  rw [hF, hTh'] at f1 f2
  have hold : ∀ x : Nat, x < H.size → F.heap[x]? = H[x]? := fun x hx => by
    have := Jvm.Free.Multi.fill_old (T.setVm vm₁) (G.2.1 6) (G.2.1 2) n.toNatClampNeg k.toNatClampNeg (defaultValue .long) (a := x) (by rw [hTh']; exact hx) n.toNatClampNeg
    rw [hF, hTh'] at this
    exact this
  have hrow : ∀ j : Nat, j < n.toNatClampNeg → F.heap[H.size + 1 + j]? = some (vp_cell (G.2.1 2) (k.toNatClampNeg, .inr (.inl (fun _ => 0)))) := fun j hj => by
    have := Jvm.Free.Multi.fill_inner (T.setVm vm₁) (G.2.1 6) (G.2.1 2) n.toNatClampNeg k.toNatClampNeg (defaultValue .long) n.toNatClampNeg j hj
    rw [hF, hTh'] at this
    rw [this, vp_cell_l]
    exact congrArg some (arrV_new _ _ _)
  have hout : Jvm.Free.Multi.outerC (G.2.1 6) n.toNatClampNeg H.size n.toNatClampNeg = vp_cell (G.2.1 6) (n.toNatClampNeg, .inr (.inr (.inr (.inr (fun i => if i < n.toNatClampNeg then some (H.size + 1 + i) else none))))) := by
    rw [vp_cell_q]
    exact vr_outer (G.2.1 6) n.toNatClampNeg H.size n.toNatClampNeg
  rw [hout] at f2
  obtain ⟨t, a1, b1⟩ := kk F.heap f2 hrow f1 hold ⟨by rw [f1]; have := hS.1; omega, fun x h1 h2 => (hold x (Nat.lt_of_lt_of_le h1 hS.1)).trans (hS.2.1 x h1 h2), hS.2.2⟩ F rfl X'
  refine ⟨t, step t ?_, b1⟩
  have e : T.heap.size = H.size := by rw [hTh]
  rw [e]
  exact a1
end GM
