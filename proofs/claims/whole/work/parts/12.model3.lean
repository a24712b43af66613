set_option maxHeartbeats 4000000 in
set_option maxRecDepth 100000 in
theorem c_X12_kept (l : Launch) (G : gW) (sort : Int32) (v : Int64) : gCL l yX12_kept cX12_kept 3 (gRm 0 0) G [.int sort, .long v] (fun H => True) (fun r H => r = gKept sort v) (fun _ => False) := by
  refine g_start (by decide) (Nat.le_of_ble_eq_true rfl) ?_
  intro pp_ ee_ s mm_ aa_ below meth cc_ ls Q hQ hX hE hP hl
  obtain ⟨hx, hb, hr, hml, hown, hT, hlk, hnm⟩ := hX
  have hK := hE.2.1
  have hS : va_S (fun _ => False) s.heap s.heap [] := va_S.rf
  have hl : lv_has ls 3 [(0, .int sort), (1, .long v)] := hl
  refine lv_iload_n hx hb dX12_kept_0 rfl (lv_at hl 0 rfl) ?_
  by_cases c1 : sort = 0
  · refine lv_tableIn (off := 31) (tgt := 32) hx hb dX12_kept_1 (by rw [c1]; decide) (by rw [c1]; decide) (by rw [c1]; decide) (by decide) ?_
    refine lv_lload_n hx hb dX12_kept_32 rfl (lv_at hl 1 rfl) ?_
    refine lv_l2i hx hb dX12_kept_33 rfl ?_
    refine lv_i2b hx hb dX12_kept_34 rfl ?_
    refine lv_i2l hx hb dX12_kept_35 rfl ?_
    rw [← hQ]
    exact g_lret hx hb hr hlk hS dX12_kept_36 (by simp only [gKept, if_pos c1])
  · skip
    by_cases c2 : sort = 1
    · refine lv_tableIn (off := 36) (tgt := 37) hx hb dX12_kept_1 (by rw [c2]; decide) (by rw [c2]; decide) (by rw [c2]; decide) (by decide) ?_
      refine lv_lload_n hx hb dX12_kept_37 rfl (lv_at hl 1 rfl) ?_
      refine lv_l2i hx hb dX12_kept_38 rfl ?_
      refine lv_i2s hx hb dX12_kept_39 rfl ?_
      refine lv_i2l hx hb dX12_kept_40 rfl ?_
      rw [← hQ]
      exact g_lret hx hb hr hlk hS dX12_kept_41 (by simp only [gKept, if_neg c1, if_pos c2])
    · skip
      by_cases c3 : sort = 2
      · refine lv_tableIn (off := 41) (tgt := 42) hx hb dX12_kept_1 (by rw [c3]; decide) (by rw [c3]; decide) (by rw [c3]; decide) (by decide) ?_
        refine lv_lload_n hx hb dX12_kept_42 rfl (lv_at hl 1 rfl) ?_
        refine lv_l2i hx hb dX12_kept_43 rfl ?_
        refine lv_i2l hx hb dX12_kept_44 rfl ?_
        rw [← hQ]
        exact g_lret hx hb hr hlk hS dX12_kept_45 (by simp only [gKept, if_neg c1, if_neg c2, if_pos c3])
      · skip
        by_cases c4 : sort = 3
        · refine lv_tableIn (off := 45) (tgt := 46) hx hb dX12_kept_1 (by rw [c4]; decide) (by rw [c4]; decide) (by rw [c4]; decide) (by decide) ?_
          refine lv_lload_n hx hb dX12_kept_46 rfl (lv_at hl 1 rfl) ?_
          rw [← hQ]
          exact g_lret hx hb hr hlk hS dX12_kept_47 (by simp only [gKept, if_neg c1, if_neg c2, if_neg c3, if_pos c4])
        · skip
          have tc1 := lv_neT (k := 0) (a := 0) c1 (by decide)
          have tc2 := lv_neT (k := 1) (a := 1) c2 (by decide)
          have tc3 := lv_neT (k := 2) (a := 2) c3 (by decide)
          have tc4 := lv_neT (k := 3) (a := 3) c4 (by decide)
          refine lv_tableOut (tgt := 48) hx hb dX12_kept_1 (by omega) (by decide) ?_
          refine lv_lload_n hx hb dX12_kept_48 rfl (lv_at hl 1 rfl) ?_
          refine lv_lconst (v := 0) hx hb dX12_kept_49 (by decide) ?_
          refine W.lcmp hx hb dX12_kept_50 ?_
          refine lv_if_eq (tgt := 58) hx hb dX12_kept_51 (by decide) (fun c5 => ?_) (fun c5 => ?_)
          · have c5 : v = 0 := gCmp0.mp c5
            refine lv_lconst (v := 0) hx hb dX12_kept_58 (by decide) ?_
            rw [← hQ]
            exact g_lret hx hb hr hlk hS dX12_kept_59 (by simp only [gKept, if_neg c1, if_neg c2, if_neg c3, if_neg c4]; exact (if_pos c5).symm)
          · have c5 : ¬ v = 0 := fun z => c5 (gCmp0.mpr z)
            refine lv_lconst (v := 1) hx hb dX12_kept_54 (by decide) ?_
            refine lv_goto (tgt := 59) hx hb dX12_kept_55 (by decide) ?_
            rw [← hQ]
            exact g_lret hx hb hr hlk hS dX12_kept_59 (by simp only [gKept, if_neg c1, if_neg c2, if_neg c3, if_neg c4]; exact (if_neg c5).symm)

set_option maxHeartbeats 4000000 in
set_option maxRecDepth 100000 in
theorem c_X12_above (l : Launch) (G : gW) (k : Int32) : gCI l yX12_above cX12_above 1 .int (gRm 0 0) G [.int k] (fun H => True) (fun r H => r = gAbove k) (fun _ => False) := by
  refine g_start (by decide) (Nat.le_of_ble_eq_true rfl) ?_
  intro pp_ ee_ s mm_ aa_ below meth cc_ ls Q hQ hX hE hP hl
  obtain ⟨hx, hb, hr, hml, hown, hT, hlk, hnm⟩ := hX
  have hK := hE.2.1
  have hS : va_S (fun _ => False) s.heap s.heap [] := va_S.rf
  have hl : lv_has ls 1 [(0, .int k)] := hl
  refine lv_iload_n hx hb dX12_above_0 rfl (lv_at hl 0 rfl) ?_
  refine lv_iconst (v := 4) hx hb dX12_above_1 (by decide) ?_
  refine lv_icmp_ne (tgt := 9) hx hb dX12_above_2 (by decide) (fun c1 => ?_) (fun c1 => ?_)
  · refine lv_iload_n hx hb dX12_above_9 rfl (lv_at hl 0 rfl) ?_
    refine lv_iconst (v := 5) hx hb dX12_above_10 (by decide) ?_
    refine lv_icmp_ne (tgt := 18) hx hb dX12_above_11 (by decide) (fun c2 => ?_) (fun c2 => ?_)
    · refine lv_iload_n hx hb dX12_above_18 rfl (lv_at hl 0 rfl) ?_
      refine lv_bipush (v := 6) hx hb dX12_above_19 (by decide) ?_
      refine lv_icmp_ne (tgt := 28) hx hb dX12_above_21 (by decide) (fun c3 => ?_) (fun c3 => ?_)
      · refine lv_iconst (v := 0) hx hb dX12_above_28 (by decide) ?_
        rw [← hQ]
        exact g_iret hx hb hr hlk hS dX12_above_29 (by simp only [gAbove, if_neg c1, if_neg c2, if_neg c3])
      · refine lv_iconst (v := 3) hx hb dX12_above_24 (by decide) ?_
        refine lv_goto (tgt := 29) hx hb dX12_above_25 (by decide) ?_
        rw [← hQ]
        exact g_iret hx hb hr hlk hS dX12_above_29 (by simp only [gAbove, if_neg c1, if_neg c2, if_pos c3])
    · refine lv_iconst (v := 2) hx hb dX12_above_14 (by decide) ?_
      refine lv_goto (tgt := 29) hx hb dX12_above_15 (by decide) ?_
      rw [← hQ]
      exact g_iret hx hb hr hlk hS dX12_above_29 (by simp only [gAbove, if_neg c1, if_pos c2])
  · refine lv_iconst (v := 1) hx hb dX12_above_5 (by decide) ?_
    refine lv_goto (tgt := 29) hx hb dX12_above_6 (by decide) ?_
    rw [← hQ]
    exact g_iret hx hb hr hlk hS dX12_above_29 (by simp only [gAbove, if_pos c1])

set_option maxHeartbeats 4000000 in
set_option maxRecDepth 100000 in
theorem c_X12_trace (l : Launch) (G : gW) (b : Nat) (π μ f : gPS) (g : Nat → Int64) (rn : Nat) (hr9 : μ 4 1 = nI rn) (hrn : rn ≤ 4096) (i : Int32) : gCI l yX12_trace cX12_trace 2 .int (gRm 1 24) G [.ref b, .int i] (fun H => gSg G b (gLM G b π μ f g) H) (fun r H => r = gqTrace μ i) (fun _ => False) := by
  refine g_start (by decide) (Nat.le_of_ble_eq_true rfl) ?_
  intro pp_ ee_ s mm_ aa_ below meth cc_ ls Q hQ hX hE hP hl
  obtain ⟨hx, hb, hr, hml, hown, hT, hlk, hnm⟩ := hX
  have hK := hE.2.1
  have h1 := hP
  have hS : va_S (fun _ => False) s.heap s.heap [] := va_S.rf
  have hl : lv_has ls 2 [(0, .ref b), (1, .int i)] := hl
  refine lv_iload_n hx hb dX12_trace_0 rfl (lv_at hl 1 rfl) ?_
  refine lv_iconst (v := 0) hx hb dX12_trace_1 (by decide) ?_
  refine lv_bipush (v := 20) hx hb dX12_trace_2 (by decide) ?_
  refine lv_aload_n hx hb dX12_trace_4 rfl (lv_at hl 0 rfl) ?_
  refine g_get (v := .int (μ 4 1)) (T := TX12) (ci := 12) (N := 45) hx hb hown hK (gY_X12 hT) rfl (h1 0 _ rfl) 37 (by decide) (hT _ gf_X12_303) rfl dX12_trace_5 ?_
  refine va_mmin hx hb (hml.trans hl.1.symm) hown (hT _ gm_X12_230) (hT _ gt_Lib_Math_min_name) (hT _ gn_java_lang_Math) (hT _ gc_Lib_Math_min_name) (Nat.le_of_ble_eq_true rfl) (Nat.le_of_ble_eq_true rfl) (Nat.zero_le _) (Nat.zero_le _) dX12_trace_8 ?_
  refine lv_iconst (v := 1) hx hb dX12_trace_11 (by decide) ?_
  refine lv_isub hx hb dX12_trace_12 ?_
  refine g_ki (g_runS (rest := []) hx hb hml hown hE hT (c_X12_within l G i 0 ((if μ 4 1 < 20 then μ 4 1 else 20) - 1)) gM_X12_within gm_X12_108 gt_X12_within trivial rfl hl.1 ⟨rfl, rfl⟩ ⟨Nat.le_of_ble_eq_true rfl, Nat.le_of_ble_eq_true rfl⟩ ⟨Nat.zero_le _, Nat.zero_le _⟩ rfl (Nat.le_of_ble_eq_true rfl) dX12_trace_13) hS (fun _ h => h.elim) (fun r4 H1 locs q2 k3 hS => ?_)
  subst q2
  have h1 := gSg_free h1 k3 (by intro k hk q; simp only [List.length_cons, List.length_nil] at hk; omega)
  refine lv_if_eq (tgt := 28) hx hb dX12_trace_16 (by decide) (fun c5 => ?_) (fun c5 => ?_)
  · have c5 : ¬ (0 ≤ i ∧ i ≤ (if μ 4 1 < 20 then μ 4 1 else 20) - 1) := gB_0.mp c5
    rw [gTrc hr9 hrn] at c5
    refine lv_iconst (v := (-1)) hx hb dX12_trace_28 (by decide) ?_
    rw [← hQ]
    exact g_iret hx hb hr hlk hS dX12_trace_29 (by simp only [gqTrace, if_neg c5])
  · have c5 : 0 ≤ i ∧ i ≤ (if μ 4 1 < 20 then μ 4 1 else 20) - 1 := gB_1.mp c5
    rw [gTrc hr9 hrn] at c5
    obtain ⟨k, hk, ek⟩ := gIx (z := 20) (n := 20) rfl (by decide) ⟨c5.1, c5.2.2⟩
    subst ek
    refine lv_aload_n hx hb dX12_trace_19 rfl (lv_at hl 0 rfl) ?_
    refine g_get (v := .ref (b + 24)) (T := TX12) (ci := 12) (N := 45) hx hb hown hK (gY_X12 hT) rfl (h1 0 _ rfl) 38 (by decide) (hT _ gf_X12_82) rfl dX12_trace_20 ?_
    refine lv_iload_n hx hb dX12_trace_23 rfl (lv_at hl 1 rfl) ?_
    refine g_ia (j := k) (v := μ 1 k) hx hb hK (h1 24 _ rfl) rfl (by omega) (Nat.le_of_ble_eq_true rfl) rfl dX12_trace_24 ?_
    refine lv_goto (tgt := 29) hx hb dX12_trace_25 (by decide) ?_
    rw [← hQ]
    exact g_iret hx hb hr hlk hS dX12_trace_29 (by simp only [gqTrace, if_pos c5, nI_clamp (show k < 2 ^ 31 by omega)])

set_option maxHeartbeats 4000000 in
set_option maxRecDepth 100000 in
theorem c_X12_book (l : Launch) (G : gW) (b : Nat) (π μ f : gPS) (g : Nat → Int64) (bn : Nat) (hz5 : π 15 5 = nI bn) (hbn : bn ≤ 8) (w c : Int32) : gCI l yX12_book cX12_book 3 .int (gRm 2 42) G [.ref b, .int w, .int c] (fun H => gSg G b (gLM G b π μ f g) H) (fun r H => r = (gqBook π w c).1 ∧ gSg G b (gLM G b (gqBook π w c).2 μ f g) H) (fun q => b ≤ q ∧ q < b + 30) := by
  refine g_start (by decide) (Nat.le_of_ble_eq_true rfl) ?_
  intro pp_ ee_ s mm_ aa_ below meth cc_ ls Q hQ hX hE hP hl
  obtain ⟨hx, hb, hr, hml, hown, hT, hlk, hnm⟩ := hX
  have hK := hE.2.1
  have h1 := hP
  have hS : va_S (fun q => b ≤ q ∧ q < b + 30) s.heap s.heap [] := va_S.rf
  have hl : lv_has ls 3 [(0, .ref b), (1, .int w), (2, .int c)] := hl
  refine lv_iload_n hx hb dX12_book_0 rfl (lv_at hl 1 rfl) ?_
  refine lv_iconst (v := (-1)) hx hb dX12_book_1 (by decide) ?_
  refine lv_icmp_ne (tgt := 12) hx hb dX12_book_2 (by decide) (fun c1 => ?_) (fun c1 => ?_)
  · refine lv_iload_n hx hb dX12_book_12 rfl (lv_at hl 1 rfl) ?_
    refine g_ki (g_runS (rest := []) hx hb hml hown hE hT (c_X12_isWord l G w) gM_X12_isWord gm_X12_130 gt_X12_isWord trivial rfl hl.1 ⟨rfl, rfl⟩ ⟨Nat.le_of_ble_eq_true rfl, Nat.le_of_ble_eq_true rfl⟩ ⟨Nat.zero_le _, Nat.zero_le _⟩ rfl (Nat.le_of_ble_eq_true rfl) dX12_book_13) hS (fun _ h => h.elim) (fun r5 H2 locs q3 k4 hS => ?_)
    subst q3
    have h1 := gSg_free h1 k4 (by intro k hk q; simp only [List.length_cons, List.length_nil] at hk; omega)
    refine lv_if_ne (tgt := 21) hx hb dX12_book_16 (by decide) (fun c6 => ?_) (fun c6 => ?_)
    · have c6 : 0 ≤ w ∧ w ≤ 11 := gB_1.mp c6
      refine lv_iload_n hx hb dX12_book_21 rfl (lv_at hl 2 rfl) ?_
      refine lv_iconst (v := 0) hx hb dX12_book_22 (by decide) ?_
      refine lv_bipush (v := 9) hx hb dX12_book_23 (by decide) ?_
      refine g_ki (g_runS (rest := []) hx hb hml hown hE hT (c_X12_within l G c 0 9) gM_X12_within gm_X12_108 gt_X12_within trivial rfl hl.1 ⟨rfl, rfl⟩ ⟨Nat.le_of_ble_eq_true rfl, Nat.le_of_ble_eq_true rfl⟩ ⟨Nat.zero_le _, Nat.zero_le _⟩ rfl (Nat.le_of_ble_eq_true rfl) dX12_book_25) hS (fun _ h => h.elim) (fun r10 H7 locs q8 k9 hS => ?_)
      subst q8
      have h1 := gSg_free h1 k9 (by intro k hk q; simp only [List.length_cons, List.length_nil] at hk; omega)
      refine lv_if_ne (tgt := 34) hx hb dX12_book_28 (by decide) (fun c11 => ?_) (fun c11 => ?_)
      · have c11 : 0 ≤ c ∧ c ≤ 9 := gB_1.mp c11
        refine lv_aload_n hx hb dX12_book_34 rfl (lv_at hl 0 rfl) ?_
        refine g_get (v := .int (π 15 5)) (T := TX12) (ci := 12) (N := 45) hx hb hown hK (gY_X12 hT) rfl (h1 0 _ rfl) 34 (by decide) (hT _ gf_X12_296) rfl dX12_book_35 ?_
        refine lv_bipush (v := 8) hx hb dX12_book_38 (by decide) ?_
        refine lv_icmp_ne (tgt := 46) hx hb dX12_book_40 (by decide) (fun c12 => ?_) (fun c12 => ?_)
        · have c12 : ¬ bn = 8 := fun z => c12 ((gEq (a := bn) (b := 8) hz5 rfl (by omega) (by omega)).mpr z)
          refine lv_aload_n hx hb dX12_book_46 rfl (lv_at hl 0 rfl) ?_
          refine g_get (v := .ref (b + 22)) (T := TX12) (ci := 12) (N := 45) hx hb hown hK (gY_X12 hT) rfl (h1 0 _ rfl) 35 (by decide) (hT _ gf_X12_76) rfl dX12_book_47 ?_
          refine lv_aload_n hx hb dX12_book_50 rfl (lv_at hl 0 rfl) ?_
          refine g_get (v := .int (π 15 5)) (T := TX12) (ci := 12) (N := 45) hx hb hown hK (gY_X12 hT) rfl (h1 0 _ rfl) 34 (by decide) (hT _ gf_X12_296) rfl dX12_book_51 ?_
          refine lv_iload_n hx hb dX12_book_54 rfl (lv_at hl 1 rfl) ?_
          refine g_is (j := bn) hx hb hK hS (h1 22 _ rfl) hz5 (by omega) (Nat.le_of_ble_eq_true rfl) (by omega) dX12_book_55 (fun H13 locs c14 oq hS => ?_)
          have h1 : gSg G b (gLM G b (gU π 13 bn w) μ f g) H13 := gSg_set h1 22 c14 oq
          refine lv_aload_n hx hb dX12_book_56 rfl (lv_at hl 0 rfl) ?_
          refine g_get (v := .ref (b + 23)) (T := TX12) (ci := 12) (N := 45) hx hb hown hK (gY_X12 hT) rfl (h1 0 _ rfl) 36 (by decide) (hT _ gf_X12_79) rfl dX12_book_57 ?_
          refine lv_aload_n hx hb dX12_book_60 rfl (lv_at hl 0 rfl) ?_
          refine lv_dup hx hb dX12_book_61 rfl ?_
          refine g_get (v := .int (π 15 5)) (T := TX12) (ci := 12) (N := 45) hx hb hown hK (gY_X12 hT) rfl (h1 0 _ rfl) 34 (by decide) (hT _ gf_X12_296) rfl dX12_book_62 ?_
          refine lv_dup_x1 hx hb dX12_book_65 rfl rfl ?_
          refine lv_iconst (v := 1) hx hb dX12_book_66 (by decide) ?_
          refine lv_iadd hx hb dX12_book_67 ?_
          refine g_put (T := TX12) (ci := 12) (N := 45) (ty0 := tyX12) hx hb hown hK hS (gY_X12 hT) tyX12_ok nmX12 rfl (h1 0 _ rfl) 34 (by decide) (hT _ gf_X12_296) rfl rfl rfl (Nat.le_of_ble_eq_true rfl) (by omega) dX12_book_68 (fun H15 locs c16 oq hS => ?_)
          have h1 : gSg G b (gLM G b (gU (gU π 13 bn w) 15 5 ((π 15 5) + 1)) μ f g) H15 := gSg_set h1 0 c16 oq
          refine lv_iload_n hx hb dX12_book_71 rfl (lv_at hl 2 rfl) ?_
          refine g_is (j := bn) hx hb hK hS (h1 23 _ rfl) hz5 (by omega) (Nat.le_of_ble_eq_true rfl) (by omega) dX12_book_72 (fun H17 locs c18 oq hS => ?_)
          have h1 : gSg G b (gLM G b (gU (gU (gU π 13 bn w) 15 5 ((π 15 5) + 1)) 14 bn c) μ f g) H17 := gSg_set h1 23 c18 oq
          refine lv_aload_n hx hb dX12_book_73 rfl (lv_at hl 0 rfl) ?_
          refine g_get (v := .int ((π 15 5) + 1)) (T := TX12) (ci := 12) (N := 45) hx hb hown hK (gY_X12 hT) rfl (h1 0 _ rfl) 34 (by decide) (hT _ gf_X12_296) rfl dX12_book_74 ?_
          rw [← hQ]
          exact g_iret hx hb hr hlk hS dX12_book_77 (by rw [show gqBook π w c = ((π 15 5) + 1, gU (gU (gU π 13 bn w) 15 5 ((π 15 5) + 1)) 14 bn c) from by simp only [gqBook, if_neg c1, if_pos c6, if_pos c11, if_neg (show ¬ π 15 5 = 8 from fun z => c12 ((gEq (b := 8) hz5 rfl (by omega) (by omega)).mp z)), show (π 15 5).toNatClampNeg = bn from by rw [hz5]; exact nI_clamp (by omega)] <;> rfl]; exact ⟨rfl, h1⟩)
        · have c12 : bn = 8 := (gEq (a := bn) (b := 8) hz5 rfl (by omega) (by omega)).mp c12
          refine lv_bipush (v := (-4)) hx hb dX12_book_43 (by decide) ?_
          rw [← hQ]
          exact g_iret hx hb hr hlk hS dX12_book_45 (by rw [show gqBook π w c = ((-4), π) from by simp only [gqBook, if_neg c1, if_pos c6, if_pos c11, if_pos (show π 15 5 = 8 from (gEq (b := 8) hz5 rfl (by omega) (by omega)).mpr c12)] <;> rfl]; exact ⟨rfl, h1⟩)
      · have c11 : ¬ (0 ≤ c ∧ c ≤ 9) := gB_0.mp c11
        refine lv_bipush (v := (-2)) hx hb dX12_book_31 (by decide) ?_
        rw [← hQ]
        exact g_iret hx hb hr hlk hS dX12_book_33 (by rw [show gqBook π w c = ((-2), π) from by simp only [gqBook, if_neg c1, if_pos c6, if_neg c11] <;> rfl]; exact ⟨rfl, h1⟩)
    · have c6 : ¬ (0 ≤ w ∧ w ≤ 11) := gB_0.mp c6
      refine lv_iconst (v := (-1)) hx hb dX12_book_19 (by decide) ?_
      rw [← hQ]
      exact g_iret hx hb hr hlk hS dX12_book_20 (by rw [show gqBook π w c = ((-1), π) from by simp only [gqBook, if_neg c1, if_neg c6] <;> rfl]; exact ⟨rfl, h1⟩)
  · refine lv_aload_n hx hb dX12_book_5 rfl (lv_at hl 0 rfl) ?_
    refine lv_iconst (v := 0) hx hb dX12_book_6 (by decide) ?_
    refine g_put (T := TX12) (ci := 12) (N := 45) (ty0 := tyX12) hx hb hown hK hS (gY_X12 hT) tyX12_ok nmX12 rfl (h1 0 _ rfl) 34 (by decide) (hT _ gf_X12_296) rfl rfl rfl (Nat.le_of_ble_eq_true rfl) (by omega) dX12_book_7 (fun H19 locs c20 oq hS => ?_)
    have h1 : gSg G b (gLM G b (gU π 15 5 0) μ f g) H19 := gSg_set h1 0 c20 oq
    refine lv_iconst (v := 0) hx hb dX12_book_10 (by decide) ?_
    rw [← hQ]
    exact g_iret hx hb hr hlk hS dX12_book_11 (by rw [show gqBook π w c = (0, gU π 15 5 0) from by simp only [gqBook, if_pos c1] <;> rfl]; exact ⟨rfl, h1⟩)

set_option maxHeartbeats 4000000 in
set_option maxRecDepth 100000 in
theorem c_X12_see (l : Launch) (G : gW) (b : Nat) (π μ f : gPS) (g : Nat → Int64) (n : Nat) (hz : π 15 0 = nI n) (hn : n ≤ 6) (sn : Nat) (hz3 : π 15 3 = nI sn) (hsn : sn ≤ 5) (p w so : Int32) : gCI l yX12_see cX12_see 4 .int (gRm 2 43) G [.ref b, .int p, .int w, .int so] (fun H => gSg G b (gLM G b π μ f g) H) (fun r H => r = (gqSee π p w so).1 ∧ gSg G b (gLM G b (gqSee π p w so).2 μ f g) H) (fun q => b ≤ q ∧ q < b + 30) := by
  refine g_start (by decide) (Nat.le_of_ble_eq_true rfl) ?_
  intro pp_ ee_ s mm_ aa_ below meth cc_ ls Q hQ hX hE hP hl
  obtain ⟨hx, hb, hr, hml, hown, hT, hlk, hnm⟩ := hX
  have hK := hE.2.1
  have h1 := hP
  have hS : va_S (fun q => b ≤ q ∧ q < b + 30) s.heap s.heap [] := va_S.rf
  have hl : lv_has ls 4 [(0, .ref b), (1, .int p), (2, .int w), (3, .int so)] := hl
  refine lv_iload_n hx hb dX12_see_0 rfl (lv_at hl 1 rfl) ?_
  refine lv_iconst (v := (-1)) hx hb dX12_see_1 (by decide) ?_
  refine lv_icmp_ne (tgt := 12) hx hb dX12_see_2 (by decide) (fun c1 => ?_) (fun c1 => ?_)
  · refine lv_aload_n hx hb dX12_see_12 rfl (lv_at hl 0 rfl) ?_
    refine lv_iload_n hx hb dX12_see_13 rfl (lv_at hl 1 rfl) ?_
    refine g_ki (g_runV (T := TX12) (ci := 12) (N := 45) (rest := []) hx hb hml hown hE hT (c_X12_isOne l G b π μ f g n hz (by omega) p) gM_X12_isOne gm_X12_112 gi_X12_isOne gs_RX12_yX12_isOne_yX12_isOne rfl (h1 0 _ rfl) h1 rfl hl.1 ⟨rfl, rfl⟩ ⟨Nat.le_of_ble_eq_true rfl, Nat.le_of_ble_eq_true rfl⟩ ⟨Nat.zero_le _, Nat.zero_le _⟩ rfl (Nat.le_of_ble_eq_true rfl) dX12_see_14) hS (fun _ h => h.elim) (fun r5 H2 locs q3 k4 hS => ?_)
    subst q3
    have h1 := gSg_free h1 k4 (by intro k hk q; simp only [List.length_cons, List.length_nil] at hk; omega)
    refine lv_if_ne (tgt := 22) hx hb dX12_see_17 (by decide) (fun c6 => ?_) (fun c6 => ?_)
    · have c6 : 0 ≤ p ∧ p < π 15 0 := gB_1.mp c6
      refine lv_iload_n hx hb dX12_see_22 rfl (lv_at hl 2 rfl) ?_
      refine g_ki (g_runS (rest := []) hx hb hml hown hE hT (c_X12_areWords l G w) gM_X12_areWords gm_X12_123 gt_X12_areWords trivial rfl hl.1 ⟨rfl, rfl⟩ ⟨Nat.le_of_ble_eq_true rfl, Nat.le_of_ble_eq_true rfl⟩ ⟨Nat.zero_le _, Nat.zero_le _⟩ rfl (Nat.le_of_ble_eq_true rfl) dX12_see_23) hS (fun _ h => h.elim) (fun r10 H7 locs q8 k9 hS => ?_)
      subst q8
      have h1 := gSg_free h1 k9 (by intro k hk q; simp only [List.length_cons, List.length_nil] at hk; omega)
      refine lv_if_ne (tgt := 32) hx hb dX12_see_26 (by decide) (fun c11 => ?_) (fun c11 => ?_)
      · have c11 : 0 ≤ w ∧ w ≤ 4095 := gB_1.mp c11
        refine lv_aload_n hx hb dX12_see_32 rfl (lv_at hl 0 rfl) ?_
        refine g_get (v := .int (π 15 3)) (T := TX12) (ci := 12) (N := 45) hx hb hown hK (gY_X12 hT) rfl (h1 0 _ rfl) 27 (by decide) (hT _ gf_X12_272) rfl dX12_see_33 ?_
        refine lv_iconst (v := 5) hx hb dX12_see_36 (by decide) ?_
        refine lv_icmp_ne (tgt := 43) hx hb dX12_see_37 (by decide) (fun c12 => ?_) (fun c12 => ?_)
        · have c12 : ¬ sn = 5 := fun z => c12 ((gEq (a := sn) (b := 5) hz3 rfl (by omega) (by omega)).mpr z)
          refine lv_aload_n hx hb dX12_see_43 rfl (lv_at hl 0 rfl) ?_
          refine g_get (v := .ref (b + 17)) (T := TX12) (ci := 12) (N := 45) hx hb hown hK (gY_X12 hT) rfl (h1 0 _ rfl) 28 (by decide) (hT _ gf_X12_61) rfl dX12_see_44 ?_
          refine lv_aload_n hx hb dX12_see_47 rfl (lv_at hl 0 rfl) ?_
          refine g_get (v := .int (π 15 3)) (T := TX12) (ci := 12) (N := 45) hx hb hown hK (gY_X12 hT) rfl (h1 0 _ rfl) 27 (by decide) (hT _ gf_X12_272) rfl dX12_see_48 ?_
          refine lv_iload_n hx hb dX12_see_51 rfl (lv_at hl 1 rfl) ?_
          refine g_is (j := sn) hx hb hK hS (h1 17 _ rfl) hz3 (by omega) (Nat.le_of_ble_eq_true rfl) (by omega) dX12_see_52 (fun H13 locs c14 oq hS => ?_)
          have h1 : gSg G b (gLM G b (gU π 8 sn p) μ f g) H13 := gSg_set h1 17 c14 oq
          refine lv_aload_n hx hb dX12_see_53 rfl (lv_at hl 0 rfl) ?_
          refine g_get (v := .ref (b + 18)) (T := TX12) (ci := 12) (N := 45) hx hb hown hK (gY_X12 hT) rfl (h1 0 _ rfl) 29 (by decide) (hT _ gf_X12_64) rfl dX12_see_54 ?_
          refine lv_aload_n hx hb dX12_see_57 rfl (lv_at hl 0 rfl) ?_
          refine g_get (v := .int (π 15 3)) (T := TX12) (ci := 12) (N := 45) hx hb hown hK (gY_X12 hT) rfl (h1 0 _ rfl) 27 (by decide) (hT _ gf_X12_272) rfl dX12_see_58 ?_
          refine lv_iload_n hx hb dX12_see_61 rfl (lv_at hl 2 rfl) ?_
          refine g_is (j := sn) hx hb hK hS (h1 18 _ rfl) hz3 (by omega) (Nat.le_of_ble_eq_true rfl) (by omega) dX12_see_62 (fun H15 locs c16 oq hS => ?_)
          have h1 : gSg G b (gLM G b (gU (gU π 8 sn p) 9 sn w) μ f g) H15 := gSg_set h1 18 c16 oq
          refine lv_aload_n hx hb dX12_see_63 rfl (lv_at hl 0 rfl) ?_
          refine g_get (v := .ref (b + 19)) (T := TX12) (ci := 12) (N := 45) hx hb hown hK (gY_X12 hT) rfl (h1 0 _ rfl) 30 (by decide) (hT _ gf_X12_67) rfl dX12_see_64 ?_
          refine lv_aload_n hx hb dX12_see_67 rfl (lv_at hl 0 rfl) ?_
          refine lv_dup hx hb dX12_see_68 rfl ?_
          refine g_get (v := .int (π 15 3)) (T := TX12) (ci := 12) (N := 45) hx hb hown hK (gY_X12 hT) rfl (h1 0 _ rfl) 27 (by decide) (hT _ gf_X12_272) rfl dX12_see_69 ?_
          refine lv_dup_x1 hx hb dX12_see_72 rfl rfl ?_
          refine lv_iconst (v := 1) hx hb dX12_see_73 (by decide) ?_
          refine lv_iadd hx hb dX12_see_74 ?_
          refine g_put (T := TX12) (ci := 12) (N := 45) (ty0 := tyX12) hx hb hown hK hS (gY_X12 hT) tyX12_ok nmX12 rfl (h1 0 _ rfl) 27 (by decide) (hT _ gf_X12_272) rfl rfl rfl (Nat.le_of_ble_eq_true rfl) (by omega) dX12_see_75 (fun H17 locs c18 oq hS => ?_)
          have h1 : gSg G b (gLM G b (gU (gU (gU π 8 sn p) 9 sn w) 15 3 ((π 15 3) + 1)) μ f g) H17 := gSg_set h1 0 c18 oq
          refine lv_iload_n hx hb dX12_see_78 rfl (lv_at hl 3 rfl) ?_
          refine lv_if_eq (tgt := 86) hx hb dX12_see_79 (by decide) (fun c19 => ?_) (fun c19 => ?_)
          · refine lv_iconst (v := 0) hx hb dX12_see_86 (by decide) ?_
            refine g_is (j := sn) hx hb hK hS (h1 19 _ rfl) hz3 (by omega) (Nat.le_of_ble_eq_true rfl) (by omega) dX12_see_87 (fun H20 locs c21 oq hS => ?_)
            have h1 : gSg G b (gLM G b (gU (gU (gU (gU π 8 sn p) 9 sn w) 15 3 ((π 15 3) + 1)) 10 sn 0) μ f g) H20 := gSg_set h1 19 c21 oq
            refine lv_aload_n hx hb dX12_see_88 rfl (lv_at hl 0 rfl) ?_
            refine g_get (v := .int ((π 15 3) + 1)) (T := TX12) (ci := 12) (N := 45) hx hb hown hK (gY_X12 hT) rfl (h1 0 _ rfl) 27 (by decide) (hT _ gf_X12_272) rfl dX12_see_89 ?_
            rw [← hQ]
            exact g_iret hx hb hr hlk hS dX12_see_92 (by rw [show gqSee π p w so = ((π 15 3) + 1, gU (gU (gU (gU π 8 sn p) 9 sn w) 15 3 ((π 15 3) + 1)) 10 sn 0) from by simp only [gqSee, if_neg c1, if_pos c6, if_pos c11, if_neg (show ¬ π 15 3 = 5 from fun z => c12 ((gEq (b := 5) hz3 rfl (by omega) (by omega)).mp z)), show (π 15 3).toNatClampNeg = sn from by rw [hz3]; exact nI_clamp (by omega), if_pos c19] <;> rfl]; exact ⟨rfl, h1⟩)
          · refine lv_iconst (v := 1) hx hb dX12_see_82 (by decide) ?_
            refine lv_goto (tgt := 87) hx hb dX12_see_83 (by decide) ?_
            refine g_is (j := sn) hx hb hK hS (h1 19 _ rfl) hz3 (by omega) (Nat.le_of_ble_eq_true rfl) (by omega) dX12_see_87 (fun H22 locs c23 oq hS => ?_)
            have h1 : gSg G b (gLM G b (gU (gU (gU (gU π 8 sn p) 9 sn w) 15 3 ((π 15 3) + 1)) 10 sn 1) μ f g) H22 := gSg_set h1 19 c23 oq
            refine lv_aload_n hx hb dX12_see_88 rfl (lv_at hl 0 rfl) ?_
            refine g_get (v := .int ((π 15 3) + 1)) (T := TX12) (ci := 12) (N := 45) hx hb hown hK (gY_X12 hT) rfl (h1 0 _ rfl) 27 (by decide) (hT _ gf_X12_272) rfl dX12_see_89 ?_
            rw [← hQ]
            exact g_iret hx hb hr hlk hS dX12_see_92 (by rw [show gqSee π p w so = ((π 15 3) + 1, gU (gU (gU (gU π 8 sn p) 9 sn w) 15 3 ((π 15 3) + 1)) 10 sn 1) from by simp only [gqSee, if_neg c1, if_pos c6, if_pos c11, if_neg (show ¬ π 15 3 = 5 from fun z => c12 ((gEq (b := 5) hz3 rfl (by omega) (by omega)).mp z)), show (π 15 3).toNatClampNeg = sn from by rw [hz3]; exact nI_clamp (by omega), if_neg c19] <;> rfl]; exact ⟨rfl, h1⟩)
        · have c12 : sn = 5 := (gEq (a := sn) (b := 5) hz3 rfl (by omega) (by omega)).mp c12
          refine lv_bipush (v := (-4)) hx hb dX12_see_40 (by decide) ?_
          rw [← hQ]
          exact g_iret hx hb hr hlk hS dX12_see_42 (by rw [show gqSee π p w so = ((-4), π) from by simp only [gqSee, if_neg c1, if_pos c6, if_pos c11, if_pos (show π 15 3 = 5 from (gEq (b := 5) hz3 rfl (by omega) (by omega)).mpr c12)] <;> rfl]; exact ⟨rfl, h1⟩)
      · have c11 : ¬ (0 ≤ w ∧ w ≤ 4095) := gB_0.mp c11
        refine lv_bipush (v := (-2)) hx hb dX12_see_29 (by decide) ?_
        rw [← hQ]
        exact g_iret hx hb hr hlk hS dX12_see_31 (by rw [show gqSee π p w so = ((-2), π) from by simp only [gqSee, if_neg c1, if_pos c6, if_neg c11] <;> rfl]; exact ⟨rfl, h1⟩)
    · have c6 : ¬ (0 ≤ p ∧ p < π 15 0) := gB_0.mp c6
      refine lv_iconst (v := (-1)) hx hb dX12_see_20 (by decide) ?_
      rw [← hQ]
      exact g_iret hx hb hr hlk hS dX12_see_21 (by rw [show gqSee π p w so = ((-1), π) from by simp only [gqSee, if_neg c1, if_neg c6] <;> rfl]; exact ⟨rfl, h1⟩)
  · refine lv_aload_n hx hb dX12_see_5 rfl (lv_at hl 0 rfl) ?_
    refine lv_iconst (v := 0) hx hb dX12_see_6 (by decide) ?_
    refine g_put (T := TX12) (ci := 12) (N := 45) (ty0 := tyX12) hx hb hown hK hS (gY_X12 hT) tyX12_ok nmX12 rfl (h1 0 _ rfl) 27 (by decide) (hT _ gf_X12_272) rfl rfl rfl (Nat.le_of_ble_eq_true rfl) (by omega) dX12_see_7 (fun H24 locs c25 oq hS => ?_)
    have h1 : gSg G b (gLM G b (gU π 15 3 0) μ f g) H24 := gSg_set h1 0 c25 oq
    refine lv_iconst (v := 0) hx hb dX12_see_10 (by decide) ?_
    rw [← hQ]
    exact g_iret hx hb hr hlk hS dX12_see_11 (by rw [show gqSee π p w so = (0, gU π 15 3 0) from by simp only [gqSee, if_pos c1] <;> rfl]; exact ⟨rfl, h1⟩)
