/-! THE LAW: what the tables and the Statement give, at its entry -/
def gGv : Cond := Cond.and given_1 narrow_1
theorem gAllIn {α : Type} {L : List α} {M : List Cond} {f : α → Cond} (h : L.all (fun i => M.contains (f i)) = true) : ∀ i ∈ L, f i ∈ M := fun i hi => by
  have := List.all_eq_true.mp h i hi
  simpa using this
def gTm (i : Nat) : Term := match i with
  | 0 => .string RX5 25
  | 1 => .string RX5 106
  | 2 => .string RX5 72
  | 3 => .string RX5 81
  | 4 => .string RX5 83
  | 5 => .string RX12 195
  | 6 => .string RX12 201
  | _ => .string RX12 203
theorem gEqR {args : Array Value} {s : State} {t u : Term} {a : Nat} (h : (Cond.eq t u).before args s = true) (hu : ∃ a2, u.eval args s none [] s = some (.ref a2)) (ht : t.eval args s none [] s = some (.ref a)) : u.eval args s none [] s = some (.ref a) := by
  obtain ⟨a2, hu⟩ := hu
  have e : a = a2 := by
    simp [Cond.before, Cond.holds, Cond.value, ht, hu] at h
    exact h
  rw [e]
  exact hu
theorem gG_ex : (List.range 8).all (fun i => (flatC gGv).contains (Cond.exactly (gTm i) "java/lang/String")) = true := by decide +kernel
theorem gG_co : (List.range 8).all (fun i => (flatC gGv).contains (Cond.eq (.field (gTm i) "java/lang/String" "coder" "B") (.int 0))) = true := by decide +kernel
theorem gG_ar : (List.range 8).all (fun i => (flatC gGv).contains (Cond.arrayOf (.field (gTm i) "java/lang/String" "value" "[B") .byte)) = true := by decide +kernel
theorem gG_le : (List.range 8).all (fun i => (flatC gGv).contains (Cond.eq (.length (.field (gTm i) "java/lang/String" "value" "[B")) (.int (Int32.ofNat (gLen.getD i 0))))) = true := by decide +kernel
theorem gG_el : (List.range 8).all (fun i => (List.range (gLen.getD i 0)).all (fun j => (flatC gGv).contains (Cond.eq (.elem (.field (gTm i) "java/lang/String" "value" "[B") (.int (Int32.ofNat j))) (.int ((gByt.getD i []).getD j 0))))) = true := by decide +kernel
theorem gG_ne : (List.range 8).all (fun i => (List.range 8).all (fun j => i == j || (flatC gGv).contains (Cond.not (Cond.eq (gTm i) (gTm j))) || (flatC gGv).contains (Cond.not (Cond.eq (gTm j) (gTm i))))) = true := by decide +kernel
theorem gG_nest : gNest.all (fun q => lw_tbl.contains (Cond.methodLinkNest q.1 q.2.1 q.2.2.1 q.2.2.2)) = true := by decide +kernel
theorem gG_noc : gNoC.all (fun q => (flatC gGv).contains (Cond.not (Cond.castable q.1 q.2))) = true := by decide +kernel
theorem gG_cast : gCast.all (fun q => q.1 == q.2 || lw_tbl.contains (Cond.castable q.1 q.2)) = true := by decide +kernel
theorem gG_str : gStr.all (fun q => lw_tbl.contains (Cond.stringRef q.1 q.2.1 q.2.2.1)) = true := by decide +kernel
theorem gCastR {s : State} {C : String} {c : ClassId} (h : s.vm.findClass C = some c) : va_Nw (.castable C C) s := by
  show (Cond.castable C C).before #[] s = true
  simp [Cond.before, Cond.holds, Cond.value, h, va_asg]
set_option maxHeartbeats 4000000 in
theorem law_tables {p : Program} {s : State} {m : MethodId} {meth : Method} {c : Code} {b L : Nat} {xs : Nat → Int32} (C0 : lw_At p s m meth c b L xs) : ∃ G, gLC G p s m meth c b L xs := by
  obtain ⟨hx, hb, hr, hml, hown, hts, hX, hbl, hlk, hgv⟩ := C0
  have hs := flat_of_before gGv hgv
  have hT : ∀ w ∈ gTW, w.before #[Value.ref b] s = true := fun w h => (List.mem_append.mp h).elim (fun h => hts w (gXtra_in w h)) (fun h => hts w (wsL_law_in w h))
  have hT0 : ∀ w ∈ gTW, w.before #[] s = true := fun w hw => word_at (State.WarmedH.refl s) (gTW_word hw) (hT w hw)
  obtain ⟨c0, i0, K0⟩ := u_known (gY_X0 hT) (fun _ h => h) (hT _ ga_RX0)
  obtain ⟨c1, i1, K1⟩ := u_known (gY_X1 hT) (fun _ h => h) (hT _ ga_RX1)
  obtain ⟨c2, i2, K2⟩ := u_known (gY_X2 hT) (fun _ h => h) (hT _ ga_RX2)
  obtain ⟨c3, i3, K3⟩ := u_known (gY_X3 hT) (fun _ h => h) (hT _ ga_RX3)
  obtain ⟨c4, i4, K4⟩ := u_known (gY_X4 hT) (fun _ h => h) (hT _ ga_RX4)
  obtain ⟨c5, i5, K5⟩ := u_known (gY_X5 hT) (fun _ h => h) (hT _ ga_RX5)
  obtain ⟨c6, i6, K6⟩ := u_known (gY_X6 hT) (fun _ h => h) (hT _ ga_RX6)
  obtain ⟨c7, i7, K7⟩ := u_known (gY_X7 hT) (fun _ h => h) (hT _ ga_RX7)
  obtain ⟨c8, i8, K8⟩ := u_known (gY_X8 hT) (fun _ h => h) (hT _ ga_RX8)
  obtain ⟨c9, i9, K9⟩ := u_known (gY_X9 hT) (fun _ h => h) (hT _ ga_RX9)
  obtain ⟨c10, i10, K10⟩ := u_known (gY_X10 hT) (fun _ h => h) (hT _ ga_RX10)
  obtain ⟨c11, i11, K11⟩ := u_known (gY_X11 hT) (fun _ h => h) (hT _ ga_RX11)
  obtain ⟨c12, i12, K12⟩ := u_known (gY_X12 hT) (fun _ h => h) (hT _ ga_RX12)
  obtain ⟨aI, kI, mI, fI, gI, hI⟩ := Cond.arrayClass_spec (hT _ gx_23)
  obtain ⟨aB, kB, mB, fB, gB, hB⟩ := Cond.arrayClass_spec (hT _ gx_19)
  obtain ⟨aJ, kJ, mJ, fJ, gJ, hJ⟩ := Cond.arrayClass_spec (hT _ gx_32)
  obtain ⟨aZ, kZ, mZ, fZ, gZ, hZ⟩ := Cond.arrayClass_spec (hT _ gx_144)
  have w5 : va_AO RX5 s := va_AO.of (A := #[Value.ref b]) (hts (Cond.arrayOver (.object RX5)) (by decide +kernel))
  have w7 : va_AO RX7 s := va_AO.of (A := #[Value.ref b]) (hts (Cond.arrayOver (.object RX7)) (by decide +kernel))
  have wJ : (Cond.arrayOver (.array .long)).before #[] s = true := (hts (Cond.arrayOver (.array .long)) (by decide +kernel))
  obtain ⟨m5, a5, k5, p5, -, q5, r5, t5⟩ := Cond.arrayOver_spec (args := #[]) w5
  obtain ⟨m7, a7, k7, p7, -, q7, r7, t7⟩ := Cond.arrayOver_spec (args := #[]) w7
  obtain ⟨mA, aA, kA, pA, -, qA, rA, tA⟩ := arrayOverA_spec wJ
  have hex := fun i (hi : i < 8) => hs _ (gAllIn gG_ex i (List.mem_range.mpr hi))
  obtain ⟨adK, adV, hSt, hEv⟩ := vk_Sof (args := #[Value.ref b]) (s := s) (N := 8) (tm := gTm) (len := gLen) (byt := gByt) (A := fun _ => False) (fun i hi => Nat.lt_of_le_of_lt (gLen_le i hi) (by decide)) hex (fun i hi => hs _ (gAllIn gG_co i (List.mem_range.mpr hi))) (fun i hi => hs _ (gAllIn gG_ar i (List.mem_range.mpr hi))) (fun i hi => hs _ (gAllIn gG_le i (List.mem_range.mpr hi))) (fun i hi j hj => hs _ (gAllIn (List.all_eq_true.mp gG_el i (List.mem_range.mpr hi)) j (List.mem_range.mpr hj))) (fun i j hi hj hij => by
    have h := List.all_eq_true.mp (List.all_eq_true.mp gG_ne i (List.mem_range.mpr hi)) j (List.mem_range.mpr hj)
    simp only [Bool.or_eq_true, beq_iff_eq, List.contains_iff_mem] at h
    rcases h with (h | h) | h
    · exact absurd h hij
    · exact Or.inl (hs _ h)
    · exact Or.inr (hs _ h)) (fun _ _ h => h)
  have hK2 : ∀ (k : Nat) (q : ClassId × FieldType), ([(aI, .int), (aB, .byte), (aJ, .long), (aZ, .boolean), (a5, .object RX5), (a7, .object RX7), (aA, .array .long)] : List (ClassId × FieldType))[k]? = some q → ArrOfT s q.1 q.2 ∧ va_RA s q.1 q.2 := by
    intro k q hq
    match k, hq with
    | 0, hq => cases hq; exact ⟨fun n z => ⟨fun q h => (by cases h), kI, gI, mI, hI⟩, fI⟩
    | 1, hq => cases hq; exact ⟨fun n z => ⟨fun q h => (by cases h), kB, gB, mB, hB⟩, fB⟩
    | 2, hq => cases hq; exact ⟨fun n z => ⟨fun q h => (by cases h), kJ, gJ, mJ, hJ⟩, fJ⟩
    | 3, hq => cases hq; exact ⟨fun n z => ⟨fun q h => (by cases h), kZ, gZ, mZ, hZ⟩, fZ⟩
    | 4, hq => cases hq; exact ⟨fun n z => ⟨fun q h => (by cases h), k5, q5, m5, r5⟩, k5, m5, q5, r5, p5, t5⟩
    | 5, hq => cases hq; exact ⟨fun n z => ⟨fun q h => (by cases h), k7, q7, m7, r7⟩, k7, m7, q7, r7, p7, t7⟩
    | 6, hq => cases hq; exact ⟨fun n z => ⟨fun q h => (by cases h), kA, qA, mA, rA⟩, tA⟩
    | k + 7, hq => exact absurd hq (by simp)
  let dC : Nat → ClassId := fun k => match k with
    | 0 => c0
    | 1 => c1
    | 2 => c2
    | 3 => c3
    | 4 => c4
    | 5 => c5
    | 6 => c6
    | 7 => c7
    | 8 => c8
    | 9 => c9
    | 10 => c10
    | 11 => c11
    | _ => c12
  let dI : Nat → Nat → Nat := fun k => match k with
    | 0 => i0
    | 1 => i1
    | 2 => i2
    | 3 => i3
    | 4 => i4
    | 5 => i5
    | 6 => i6
    | 7 => i7
    | 8 => i8
    | 9 => i9
    | 10 => i10
    | 11 => i11
    | _ => i12
  let dA : Nat → ClassId := fun k => match k with
    | 0 => aI
    | 1 => aB
    | 2 => aJ
    | 3 => aZ
    | 4 => a5
    | 5 => a7
    | _ => aA
  let G : gW := ((dC, dI), dA, (fun i => if i < 10 then adK i else adV (i - 10)), s.heap)
  have hK : va_K G.1 vwCl (gTys G) s := by
    refine ⟨fun k q hq => ?_, fun k q hq => ?_⟩
    · match k, hq with
      | 0, hq => cases hq; exact K0
      | 1, hq => cases hq; exact K1
      | 2, hq => cases hq; exact K2
      | 3, hq => cases hq; exact K3
      | 4, hq => cases hq; exact K4
      | 5, hq => cases hq; exact K5
      | 6, hq => cases hq; exact K6
      | 7, hq => cases hq; exact K7
      | 8, hq => cases hq; exact K8
      | 9, hq => cases hq; exact K9
      | 10, hq => cases hq; exact K10
      | 11, hq => cases hq; exact K11
      | 12, hq => cases hq; exact K12
      | k + 13, hq => exact absurd hq (by simp)
    · exact hK2 k q hq
  have hZ1 : va_Z "java/lang/String" "COMPACT_STRINGS" "Z" (.int 1) (fun _ => False) s s.heap := va_Zof (hts (Cond.laysStatic "java/lang/String" "COMPACT_STRINGS" "Z") (by decide +kernel)) (hT _ gn_RJ0) (va_eqt (hs (Cond.eq (.static "java/lang/String" "COMPACT_STRINGS" "Z") (.int 1)) (by decide +kernel))) (fun _ _ h => h)
  have hZ2 := va_Zqof (A := fun _ => False) (hts (Cond.laysStatic "jdk/internal/util/Preconditions" "SIOOBE_FORMATTER" "Ljava/util/function/BiFunction;") (by decide +kernel)) (hts (Cond.initialized "jdk/internal/util/Preconditions") (by decide +kernel)) (hs (Cond.isRef (.static "jdk/internal/util/Preconditions" "SIOOBE_FORMATTER" "Ljava/util/function/BiFunction;")) (by decide +kernel)) (fun _ _ h => h)
  have hR : ∀ q ∈ gStr, vk_R q.1 q.2.1 q.2.2.1 (G.2.2.1 q.2.2.2) s := by
    intro q hq
    refine vk_R.of (A := #[Value.ref b]) (hts _ (gAllIn gG_str q hq)) ?_
    have e164 := gEqR (hs (Cond.eq (.string RX5 25) (.string RX12 164)) (by decide +kernel)) (by
      obtain ⟨a, _, _, _, q1, -⟩ := Cond.exactly_spec (hs (Cond.exactly (.string RX12 164) "java/lang/String") (by decide +kernel))
      exact ⟨a, q1⟩) (hEv 0 (by decide))
    have e169 := gEqR (hs (Cond.eq (.string RX5 106) (.string RX12 169)) (by decide +kernel)) (by
      obtain ⟨a, _, _, _, q1, -⟩ := Cond.exactly_spec (hs (Cond.exactly (.string RX12 169) "java/lang/String") (by decide +kernel))
      exact ⟨a, q1⟩) (hEv 1 (by decide))
    simp only [gStr, List.mem_cons, List.not_mem_nil, or_false] at hq
    rcases hq with e | e | e | e | e | e | e | e | e | e <;> subst e
    · exact hEv 0 (by decide)
    · exact hEv 1 (by decide)
    · exact hEv 2 (by decide)
    · exact hEv 3 (by decide)
    · exact hEv 4 (by decide)
    · exact e164
    · exact e169
    · exact hEv 5 (by decide)
    · exact hEv 6 (by decide)
    · exact hEv 7 (by decide)
  have hJ : gJs G s s.heap := by
    refine ⟨⟨fun i hi => ?_, fun i j hi hj h => ?_⟩, hZ1, ?_⟩
    · have h := hSt.1 i hi
      show va_O _ (if i < 10 then adK i else adV (i - 10)) _ _ _ ∧ va_OF _ _ _ _ (if i < 10 then adK i else adV (i - 10)) _ _ _ ∧ va_OF _ _ _ (.ref (if 10 + i < 10 then adK (10 + i) else adV (10 + i - 10))) (if i < 10 then adK i else adV (i - 10)) _ _ _ ∧ va_T _ (if 10 + i < 10 then adK (10 + i) else adV (10 + i - 10)) _ _ _ _ _
      rw [if_pos (by omega), if_neg (by omega), show 10 + i - 10 = i by omega]
      exact h
    · have h9 : (if i < 10 then adK i else adV (i - 10)) = (if j < 10 then adK j else adV (j - 10)) := h
      rw [if_pos (by omega), if_pos (by omega)] at h9
      exact hSt.2 i j hi hj h9
    · rcases hZ2 with h | ⟨t, h⟩
      · exact ⟨_, Or.inl rfl, h⟩
      · exact ⟨_, Or.inr ⟨t, rfl⟩, h⟩
  have hE : gEF G s := by
    refine ⟨hT0, hK, fun q hq => va_Nw.of rfl (hts _ (gAllIn gG_nest q hq)), fun q hq => ?_, fun q hq => va_Nc.of (hs _ (gAllIn gG_noc q hq)), hR, hJ⟩
    have h := List.all_eq_true.mp gG_cast q hq
    simp only [Bool.or_eq_true, beq_iff_eq, List.contains_iff_mem] at h
    rcases h with h | h
    · obtain ⟨q1, q2⟩ := q
      have h : q1 = q2 := h
      subst h
      simp only [gCast, List.mem_cons, Prod.mk.injEq, List.not_mem_nil, or_false] at hq
      rcases hq with ⟨e, e2⟩ | ⟨e, e2⟩ | ⟨e, e2⟩ | ⟨e, e2⟩ | ⟨e, e2⟩ | ⟨e, e2⟩ | ⟨e, e2⟩ | ⟨e, e2⟩ | ⟨e, e2⟩ | ⟨e, e2⟩ | ⟨e, e2⟩ | ⟨e, e2⟩ | ⟨e, e2⟩ | ⟨e, e2⟩ | ⟨e, e2⟩ | ⟨e, e2⟩ | ⟨e, e2⟩
      · rw [e]; exact gCastR K7.2.1
      · exact absurd (e.symm.trans e2) (by decide +kernel)
      · exact absurd (e.symm.trans e2) (by decide +kernel)
      · exact absurd (e.symm.trans e2) (by decide +kernel)
      · exact absurd (e.symm.trans e2) (by decide +kernel)
      · exact absurd (e.symm.trans e2) (by decide +kernel)
      · exact absurd (e.symm.trans e2) (by decide +kernel)
      · rw [e]; exact gCastR K2.2.1
      · exact absurd (e.symm.trans e2) (by decide +kernel)
      · rw [e]; exact gCastR K1.2.1
      · exact absurd (e.symm.trans e2) (by decide +kernel)
      · rw [e]; exact gCastR K4.2.1
      · exact absurd (e.symm.trans e2) (by decide +kernel)
      · rw [e]; exact gCastR K3.2.1
      · rw [e]; exact gCastR K6.2.1
      · rw [e]; exact gCastR K10.2.1
      · rw [e]; exact gCastR K5.2.1
    · exact va_Nw.of rfl (hts _ h)
  exact ⟨G, hx, hb, hml, hown, hT, hX, hbl, ⟨hE, w5, w7, wJ⟩, rfl⟩
