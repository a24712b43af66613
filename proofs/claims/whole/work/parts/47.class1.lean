set_option maxHeartbeats 4000000 in
set_option maxRecDepth 100000 in
theorem c_X11_isUpTo (l : Launch) (G : gW) (x k : Int32) : gCI l yX11_isUpTo cX11_isUpTo 2 .boolean (gRm 0 0) G [.int x, .int k] (fun H => True) (fun r H => r = gB (0 ≤ x ∧ x ≤ k)) (fun _ => False) := by
  refine g_start (by decide) (Nat.le_of_ble_eq_true rfl) ?_
  intro pp_ ee_ s mm_ aa_ below meth cc_ ls Q hQ hX hE hP hl
  obtain ⟨hx, hb, hr, hml, hown, hT, hlk, hnm⟩ := hX
  have hK := hE.2.1
  have hS : va_S (fun _ => False) s.heap s.heap [] := va_S.rf
  have hl : lv_has ls 2 [(0, .int x), (1, .int k)] := hl
  refine lv_iload_n hx hb dX11_isUpTo_0 rfl (lv_at hl 0 rfl) ?_
  refine lv_if_lt (tgt := 13) hx hb dX11_isUpTo_1 (by decide) (fun c1 => ?_) (fun c1 => ?_)
  · refine lv_iconst (v := 0) hx hb dX11_isUpTo_13 (by decide) ?_
    rw [← hQ]
    exact g_zret hx hb hr hlk rfl hS dX11_isUpTo_14 (by rw [gB_f (by simp only [Int32.lt_iff_toInt_lt, Int32.le_iff_toInt_le, gz_m1, gz_0, gz_1, gz_2, gz_3, gz_4, gz_5, gz_6, gz_7, gz_8, gz_9, gz_10, gz_11, gz_12, gz_20, gz_30, gz_50, gz_57, gz_58, gz_59, gz_60, gz_61, gz_71, gz_99, gz_100, gz_110, gz_127, gz_255, gz_4095, gz_4096, gz_9999] at c1 ⊢; omega)])
  · refine lv_iload_n hx hb dX11_isUpTo_4 rfl (lv_at hl 0 rfl) ?_
    refine lv_iload_n hx hb dX11_isUpTo_5 rfl (lv_at hl 1 rfl) ?_
    refine lv_icmp_gt (tgt := 13) hx hb dX11_isUpTo_6 (by decide) (fun c2 => ?_) (fun c2 => ?_)
    · refine lv_iconst (v := 0) hx hb dX11_isUpTo_13 (by decide) ?_
      rw [← hQ]
      exact g_zret hx hb hr hlk rfl hS dX11_isUpTo_14 (by rw [gB_f (by simp only [Int32.lt_iff_toInt_lt, Int32.le_iff_toInt_le, gz_m1, gz_0, gz_1, gz_2, gz_3, gz_4, gz_5, gz_6, gz_7, gz_8, gz_9, gz_10, gz_11, gz_12, gz_20, gz_30, gz_50, gz_57, gz_58, gz_59, gz_60, gz_61, gz_71, gz_99, gz_100, gz_110, gz_127, gz_255, gz_4095, gz_4096, gz_9999] at c1 c2 ⊢; omega)])
    · refine lv_iconst (v := 1) hx hb dX11_isUpTo_9 (by decide) ?_
      refine lv_goto (tgt := 14) hx hb dX11_isUpTo_10 (by decide) ?_
      rw [← hQ]
      exact g_zret hx hb hr hlk rfl hS dX11_isUpTo_14 (by rw [gB_t (by simp only [Int32.lt_iff_toInt_lt, Int32.le_iff_toInt_le, gz_m1, gz_0, gz_1, gz_2, gz_3, gz_4, gz_5, gz_6, gz_7, gz_8, gz_9, gz_10, gz_11, gz_12, gz_20, gz_30, gz_50, gz_57, gz_58, gz_59, gz_60, gz_61, gz_71, gz_99, gz_100, gz_110, gz_127, gz_255, gz_4095, gz_4096, gz_9999] at c1 c2 ⊢; omega)])

set_option maxHeartbeats 4000000 in
set_option maxRecDepth 100000 in
theorem c_X11_isWord (l : Launch) (G : gW) (x : Int32) : gCI l yX11_isWord cX11_isWord 1 .boolean (gRm 0 0) G [.int x] (fun H => True) (fun r H => r = gB (0 ≤ x ∧ x ≤ 11)) (fun _ => False) := by
  refine g_start (by decide) (Nat.le_of_ble_eq_true rfl) ?_
  intro pp_ ee_ s mm_ aa_ below meth cc_ ls Q hQ hX hE hP hl
  obtain ⟨hx, hb, hr, hml, hown, hT, hlk, hnm⟩ := hX
  have hK := hE.2.1
  have hS : va_S (fun _ => False) s.heap s.heap [] := va_S.rf
  have hl : lv_has ls 1 [(0, .int x)] := hl
  refine lv_iload_n hx hb dX11_isWord_0 rfl (lv_at hl 0 rfl) ?_
  refine lv_if_lt (tgt := 14) hx hb dX11_isWord_1 (by decide) (fun c1 => ?_) (fun c1 => ?_)
  · refine lv_iconst (v := 0) hx hb dX11_isWord_14 (by decide) ?_
    rw [← hQ]
    exact g_zret hx hb hr hlk rfl hS dX11_isWord_15 (by rw [gB_f (by simp only [Int32.lt_iff_toInt_lt, Int32.le_iff_toInt_le, gz_m1, gz_0, gz_1, gz_2, gz_3, gz_4, gz_5, gz_6, gz_7, gz_8, gz_9, gz_10, gz_11, gz_12, gz_20, gz_30, gz_50, gz_57, gz_58, gz_59, gz_60, gz_61, gz_71, gz_99, gz_100, gz_110, gz_127, gz_255, gz_4095, gz_4096, gz_9999] at c1 ⊢; omega)])
  · refine lv_iload_n hx hb dX11_isWord_4 rfl (lv_at hl 0 rfl) ?_
    refine lv_bipush (v := 12) hx hb dX11_isWord_5 (by decide) ?_
    refine lv_icmp_ge (tgt := 14) hx hb dX11_isWord_7 (by decide) (fun c2 => ?_) (fun c2 => ?_)
    · refine lv_iconst (v := 0) hx hb dX11_isWord_14 (by decide) ?_
      rw [← hQ]
      exact g_zret hx hb hr hlk rfl hS dX11_isWord_15 (by rw [gB_f (by simp only [Int32.lt_iff_toInt_lt, Int32.le_iff_toInt_le, gz_m1, gz_0, gz_1, gz_2, gz_3, gz_4, gz_5, gz_6, gz_7, gz_8, gz_9, gz_10, gz_11, gz_12, gz_20, gz_30, gz_50, gz_57, gz_58, gz_59, gz_60, gz_61, gz_71, gz_99, gz_100, gz_110, gz_127, gz_255, gz_4095, gz_4096, gz_9999] at c1 c2 ⊢; omega)])
    · refine lv_iconst (v := 1) hx hb dX11_isWord_10 (by decide) ?_
      refine lv_goto (tgt := 15) hx hb dX11_isWord_11 (by decide) ?_
      rw [← hQ]
      exact g_zret hx hb hr hlk rfl hS dX11_isWord_15 (by rw [gB_t (by simp only [Int32.lt_iff_toInt_lt, Int32.le_iff_toInt_le, gz_m1, gz_0, gz_1, gz_2, gz_3, gz_4, gz_5, gz_6, gz_7, gz_8, gz_9, gz_10, gz_11, gz_12, gz_20, gz_30, gz_50, gz_57, gz_58, gz_59, gz_60, gz_61, gz_71, gz_99, gz_100, gz_110, gz_127, gz_255, gz_4095, gz_4096, gz_9999] at c1 c2 ⊢; omega)])

set_option maxHeartbeats 4000000 in
set_option maxRecDepth 100000 in
theorem c_X11_isTape (l : Launch) (G : gW) (x : Int32) : gCI l yX11_isTape cX11_isTape 1 .boolean (gRm 0 0) G [.int x] (fun H => True) (fun r H => r = gB (0 ≤ x ∧ x ≤ 5)) (fun _ => False) := by
  refine g_start (by decide) (Nat.le_of_ble_eq_true rfl) ?_
  intro pp_ ee_ s mm_ aa_ below meth cc_ ls Q hQ hX hE hP hl
  obtain ⟨hx, hb, hr, hml, hown, hT, hlk, hnm⟩ := hX
  have hK := hE.2.1
  have hS : va_S (fun _ => False) s.heap s.heap [] := va_S.rf
  have hl : lv_has ls 1 [(0, .int x)] := hl
  refine lv_iload_n hx hb dX11_isTape_0 rfl (lv_at hl 0 rfl) ?_
  refine lv_if_lt (tgt := 14) hx hb dX11_isTape_1 (by decide) (fun c1 => ?_) (fun c1 => ?_)
  · refine lv_iconst (v := 0) hx hb dX11_isTape_14 (by decide) ?_
    rw [← hQ]
    exact g_zret hx hb hr hlk rfl hS dX11_isTape_15 (by rw [gB_f (by simp only [Int32.lt_iff_toInt_lt, Int32.le_iff_toInt_le, gz_m1, gz_0, gz_1, gz_2, gz_3, gz_4, gz_5, gz_6, gz_7, gz_8, gz_9, gz_10, gz_11, gz_12, gz_20, gz_30, gz_50, gz_57, gz_58, gz_59, gz_60, gz_61, gz_71, gz_99, gz_100, gz_110, gz_127, gz_255, gz_4095, gz_4096, gz_9999] at c1 ⊢; omega)])
  · refine lv_iload_n hx hb dX11_isTape_4 rfl (lv_at hl 0 rfl) ?_
    refine lv_bipush (v := 6) hx hb dX11_isTape_5 (by decide) ?_
    refine lv_icmp_ge (tgt := 14) hx hb dX11_isTape_7 (by decide) (fun c2 => ?_) (fun c2 => ?_)
    · refine lv_iconst (v := 0) hx hb dX11_isTape_14 (by decide) ?_
      rw [← hQ]
      exact g_zret hx hb hr hlk rfl hS dX11_isTape_15 (by rw [gB_f (by simp only [Int32.lt_iff_toInt_lt, Int32.le_iff_toInt_le, gz_m1, gz_0, gz_1, gz_2, gz_3, gz_4, gz_5, gz_6, gz_7, gz_8, gz_9, gz_10, gz_11, gz_12, gz_20, gz_30, gz_50, gz_57, gz_58, gz_59, gz_60, gz_61, gz_71, gz_99, gz_100, gz_110, gz_127, gz_255, gz_4095, gz_4096, gz_9999] at c1 c2 ⊢; omega)])
    · refine lv_iconst (v := 1) hx hb dX11_isTape_10 (by decide) ?_
      refine lv_goto (tgt := 15) hx hb dX11_isTape_11 (by decide) ?_
      rw [← hQ]
      exact g_zret hx hb hr hlk rfl hS dX11_isTape_15 (by rw [gB_t (by simp only [Int32.lt_iff_toInt_lt, Int32.le_iff_toInt_le, gz_m1, gz_0, gz_1, gz_2, gz_3, gz_4, gz_5, gz_6, gz_7, gz_8, gz_9, gz_10, gz_11, gz_12, gz_20, gz_30, gz_50, gz_57, gz_58, gz_59, gz_60, gz_61, gz_71, gz_99, gz_100, gz_110, gz_127, gz_255, gz_4095, gz_4096, gz_9999] at c1 c2 ⊢; omega)])

set_option maxHeartbeats 4000000 in
set_option maxRecDepth 100000 in
theorem c_X11_cut (l : Launch) (G : gW) (sort : Int32) (v : Int64) : gCL l yX11_cut cX11_cut 3 (gRm 0 0) G [.int sort, .long v] (fun H => True) (fun r H => r = gKept sort v) (fun _ => False) := by
  refine g_start (by decide) (Nat.le_of_ble_eq_true rfl) ?_
  intro pp_ ee_ s mm_ aa_ below meth cc_ ls Q hQ hX hE hP hl
  obtain ⟨hx, hb, hr, hml, hown, hT, hlk, hnm⟩ := hX
  have hK := hE.2.1
  have hS : va_S (fun _ => False) s.heap s.heap [] := va_S.rf
  have hl : lv_has ls 3 [(0, .int sort), (1, .long v)] := hl
  refine lv_iload_n hx hb dX11_cut_0 rfl (lv_at hl 0 rfl) ?_
  by_cases c1 : sort = 0
  · refine lv_tableIn (off := 31) (tgt := 32) hx hb dX11_cut_1 (by rw [c1]; decide) (by rw [c1]; decide) (by rw [c1]; decide) (by decide) ?_
    refine lv_lload_n hx hb dX11_cut_32 rfl (lv_at hl 1 rfl) ?_
    refine lv_l2i hx hb dX11_cut_33 rfl ?_
    refine lv_i2b hx hb dX11_cut_34 rfl ?_
    refine lv_i2l hx hb dX11_cut_35 rfl ?_
    rw [← hQ]
    exact g_lret hx hb hr hlk hS dX11_cut_36 (by simp only [gKept, if_pos c1])
  · skip
    by_cases c2 : sort = 1
    · refine lv_tableIn (off := 36) (tgt := 37) hx hb dX11_cut_1 (by rw [c2]; decide) (by rw [c2]; decide) (by rw [c2]; decide) (by decide) ?_
      refine lv_lload_n hx hb dX11_cut_37 rfl (lv_at hl 1 rfl) ?_
      refine lv_l2i hx hb dX11_cut_38 rfl ?_
      refine lv_i2s hx hb dX11_cut_39 rfl ?_
      refine lv_i2l hx hb dX11_cut_40 rfl ?_
      rw [← hQ]
      exact g_lret hx hb hr hlk hS dX11_cut_41 (by simp only [gKept, if_neg c1, if_pos c2])
    · skip
      by_cases c3 : sort = 2
      · refine lv_tableIn (off := 41) (tgt := 42) hx hb dX11_cut_1 (by rw [c3]; decide) (by rw [c3]; decide) (by rw [c3]; decide) (by decide) ?_
        refine lv_lload_n hx hb dX11_cut_42 rfl (lv_at hl 1 rfl) ?_
        refine lv_l2i hx hb dX11_cut_43 rfl ?_
        refine lv_i2l hx hb dX11_cut_44 rfl ?_
        rw [← hQ]
        exact g_lret hx hb hr hlk hS dX11_cut_45 (by simp only [gKept, if_neg c1, if_neg c2, if_pos c3])
      · skip
        by_cases c4 : sort = 3
        · refine lv_tableIn (off := 45) (tgt := 46) hx hb dX11_cut_1 (by rw [c4]; decide) (by rw [c4]; decide) (by rw [c4]; decide) (by decide) ?_
          refine lv_lload_n hx hb dX11_cut_46 rfl (lv_at hl 1 rfl) ?_
          rw [← hQ]
          exact g_lret hx hb hr hlk hS dX11_cut_47 (by simp only [gKept, if_neg c1, if_neg c2, if_neg c3, if_pos c4])
        · skip
          have tc1 := lv_neT (k := 0) (a := 0) c1 (by decide)
          have tc2 := lv_neT (k := 1) (a := 1) c2 (by decide)
          have tc3 := lv_neT (k := 2) (a := 2) c3 (by decide)
          have tc4 := lv_neT (k := 3) (a := 3) c4 (by decide)
          refine lv_tableOut (tgt := 48) hx hb dX11_cut_1 (by omega) (by decide) ?_
          refine lv_lload_n hx hb dX11_cut_48 rfl (lv_at hl 1 rfl) ?_
          refine lv_lconst (v := 0) hx hb dX11_cut_49 (by decide) ?_
          refine W.lcmp hx hb dX11_cut_50 ?_
          refine lv_if_eq (tgt := 58) hx hb dX11_cut_51 (by decide) (fun c5 => ?_) (fun c5 => ?_)
          · have c5 : v = 0 := gCmp0.mp c5
            refine lv_lconst (v := 0) hx hb dX11_cut_58 (by decide) ?_
            rw [← hQ]
            exact g_lret hx hb hr hlk hS dX11_cut_59 (by simp only [gKept, if_neg c1, if_neg c2, if_neg c3, if_neg c4]; exact (if_pos c5).symm)
          · have c5 : ¬ v = 0 := fun z => c5 (gCmp0.mpr z)
            refine lv_lconst (v := 1) hx hb dX11_cut_54 (by decide) ?_
            refine lv_goto (tgt := 59) hx hb dX11_cut_55 (by decide) ?_
            rw [← hQ]
            exact g_lret hx hb hr hlk hS dX11_cut_59 (by simp only [gKept, if_neg c1, if_neg c2, if_neg c3, if_neg c4]; exact (if_neg c5).symm)

set_option maxHeartbeats 4000000 in
set_option maxRecDepth 100000 in
theorem c_X0_starts (l : Launch) (G : gW) (b : Nat) (f : gPS) (i v : Int32) : gCV l yX0_starts cX0_starts 3 (gRm 0 0) G [.ref b, .int i, .int v] (fun H => gSg G b (gLA G b f) H) (fun H => gSg G b (gLA G b (gU (gU (gU f 1 0 0) 1 1 i) 1 2 v)) H) (fun q => b ≤ q ∧ q < b + 2) := by
  refine g_start (by decide) (Nat.le_of_ble_eq_true rfl) ?_
  intro pp_ ee_ s mm_ aa_ below meth cc_ ls Q hQ hX hE hP hl
  obtain ⟨hx, hb, hr, hml, hown, hT, hlk, hnm⟩ := hX
  have hK := hE.2.1
  have h1 := hP
  have hS : va_S (fun q => b ≤ q ∧ q < b + 2) s.heap s.heap [] := va_S.rf
  have hl : lv_has ls 3 [(0, .ref b), (1, .int i), (2, .int v)] := hl
  refine lv_aload_n hx hb dX0_starts_0 rfl (lv_at hl 0 rfl) ?_
  refine lv_iconst (v := 0) hx hb dX0_starts_1 (by decide) ?_
  refine g_put (T := TX0) (ci := 0) (N := 4) (ty0 := tyX0) hx hb hown hK hS (gY_X0 hT) tyX0_ok nmX0 rfl (h1 0 _ rfl) 1 (by decide) (hT _ gf_X0_15) rfl rfl rfl (Nat.le_of_ble_eq_true rfl) (by omega) dX0_starts_2 (fun H1 locs c2 oq hS => ?_)
  have h1 : gSg G b (gLA G b (gU f 1 0 0)) H1 := gSg_set h1 0 c2 oq
  refine lv_aload_n hx hb dX0_starts_5 rfl (lv_at hl 0 rfl) ?_
  refine lv_iload_n hx hb dX0_starts_6 rfl (lv_at hl 1 rfl) ?_
  refine g_put (T := TX0) (ci := 0) (N := 4) (ty0 := tyX0) hx hb hown hK hS (gY_X0 hT) tyX0_ok nmX0 rfl (h1 0 _ rfl) 2 (by decide) (hT _ gf_X0_19) rfl rfl rfl (Nat.le_of_ble_eq_true rfl) (by omega) dX0_starts_7 (fun H3 locs c4 oq hS => ?_)
  have h1 : gSg G b (gLA G b (gU (gU f 1 0 0) 1 1 i)) H3 := gSg_set h1 0 c4 oq
  refine lv_aload_n hx hb dX0_starts_10 rfl (lv_at hl 0 rfl) ?_
  refine lv_iload_n hx hb dX0_starts_11 rfl (lv_at hl 2 rfl) ?_
  refine g_put (T := TX0) (ci := 0) (N := 4) (ty0 := tyX0) hx hb hown hK hS (gY_X0 hT) tyX0_ok nmX0 rfl (h1 0 _ rfl) 3 (by decide) (hT _ gf_X0_22) rfl rfl rfl (Nat.le_of_ble_eq_true rfl) (by omega) dX0_starts_12 (fun H5 locs c6 oq hS => ?_)
  have h1 : gSg G b (gLA G b (gU (gU (gU f 1 0 0) 1 1 i) 1 2 v)) H5 := gSg_set h1 0 c6 oq
  rw [← hQ]
  exact g_vret hx hb hr hlk hS dX0_starts_15 h1

set_option maxHeartbeats 4000000 in
set_option maxRecDepth 100000 in
theorem c_X0_begins (l : Launch) (G : gW) (b : Nat) (f : gPS) (t : Nat) (ht : f 1 0 = nI t) (htl : t ≤ 4000) (x : Int32) : gCV l yX0_begins cX0_begins 2 (gRm 0 0) G [.ref b, .int x] (fun H => gSg G b (gLA G b f) H) (fun H => gSg G b (gLA G b (gTb1 f x)) H) (fun q => b ≤ q ∧ q < b + 2) := by
  refine g_start (by decide) (Nat.le_of_ble_eq_true rfl) ?_
  intro pp_ ee_ s mm_ aa_ below meth cc_ ls Q hQ hX hE hP hl
  obtain ⟨hx, hb, hr, hml, hown, hT, hlk, hnm⟩ := hX
  have hK := hE.2.1
  have h1 := hP
  have hS : va_S (fun q => b ≤ q ∧ q < b + 2) s.heap s.heap [] := va_S.rf
  have hl : lv_has ls 2 [(0, .ref b), (1, .int x)] := hl
  refine lv_aload_n hx hb dX0_begins_0 rfl (lv_at hl 0 rfl) ?_
  refine g_get (v := .int (f 1 0)) (T := TX0) (ci := 0) (N := 4) hx hb hown hK (gY_X0 hT) rfl (h1 0 _ rfl) 1 (by decide) (hT _ gf_X0_15) rfl dX0_begins_1 ?_
  refine lv_bipush (v := 20) hx hb dX0_begins_4 (by decide) ?_
  refine lv_icmp_ge (tgt := 19) hx hb dX0_begins_6 (by decide) (fun c1 => ?_) (fun c1 => ?_)
  · have c1 : 20 ≤ t := (gLe (a := 20) (b := t) rfl ht (by omega) (by omega)).mp c1
    refine lv_aload_n hx hb dX0_begins_19 rfl (lv_at hl 0 rfl) ?_
    refine lv_dup hx hb dX0_begins_20 rfl ?_
    refine g_get (v := .int (f 1 0)) (T := TX0) (ci := 0) (N := 4) hx hb hown hK (gY_X0 hT) rfl (h1 0 _ rfl) 1 (by decide) (hT _ gf_X0_15) rfl dX0_begins_21 ?_
    refine lv_iconst (v := 1) hx hb dX0_begins_24 (by decide) ?_
    refine lv_iadd hx hb dX0_begins_25 ?_
    refine g_put (T := TX0) (ci := 0) (N := 4) (ty0 := tyX0) hx hb hown hK hS (gY_X0 hT) tyX0_ok nmX0 rfl (h1 0 _ rfl) 1 (by decide) (hT _ gf_X0_15) rfl rfl rfl (Nat.le_of_ble_eq_true rfl) (by omega) dX0_begins_26 (fun H2 locs c3 oq hS => ?_)
    have h1 : gSg G b (gLA G b (gU f 1 0 ((f 1 0) + 1))) H2 := gSg_set h1 0 c3 oq
    rw [← hQ]
    exact g_vret hx hb hr hlk hS dX0_begins_29 (by rw [show gTb1 f x = gU f 1 0 ((f 1 0) + 1) from by rw [gTb1, if_neg (fun z => absurd ((gLt (y := 20) (b := 20) ht rfl (by omega) (by omega)).mp z) (by omega))]]; exact h1)
  · have c1 : ¬ 20 ≤ t := fun z => c1 ((gLe (a := 20) (b := t) rfl ht (by omega) (by omega)).mpr z)
    refine lv_aload_n hx hb dX0_begins_9 rfl (lv_at hl 0 rfl) ?_
    refine g_get (v := .ref (b + 1)) (T := TX0) (ci := 0) (N := 4) hx hb hown hK (gY_X0 hT) rfl (h1 0 _ rfl) 0 (by decide) (hT _ gf_X0_9) rfl dX0_begins_10 ?_
    refine lv_aload_n hx hb dX0_begins_13 rfl (lv_at hl 0 rfl) ?_
    refine g_get (v := .int (f 1 0)) (T := TX0) (ci := 0) (N := 4) hx hb hown hK (gY_X0 hT) rfl (h1 0 _ rfl) 1 (by decide) (hT _ gf_X0_15) rfl dX0_begins_14 ?_
    refine lv_iload_n hx hb dX0_begins_17 rfl (lv_at hl 1 rfl) ?_
    refine g_is (j := t) hx hb hK hS (h1 1 _ rfl) ht (by omega) (Nat.le_of_ble_eq_true rfl) (by omega) dX0_begins_18 (fun H4 locs c5 oq hS => ?_)
    have h1 : gSg G b (gLA G b (gU f 0 t x)) H4 := gSg_set h1 1 c5 oq
    refine lv_aload_n hx hb dX0_begins_19 rfl (lv_at hl 0 rfl) ?_
    refine lv_dup hx hb dX0_begins_20 rfl ?_
    refine g_get (v := .int (f 1 0)) (T := TX0) (ci := 0) (N := 4) hx hb hown hK (gY_X0 hT) rfl (h1 0 _ rfl) 1 (by decide) (hT _ gf_X0_15) rfl dX0_begins_21 ?_
    refine lv_iconst (v := 1) hx hb dX0_begins_24 (by decide) ?_
    refine lv_iadd hx hb dX0_begins_25 ?_
    refine g_put (T := TX0) (ci := 0) (N := 4) (ty0 := tyX0) hx hb hown hK hS (gY_X0 hT) tyX0_ok nmX0 rfl (h1 0 _ rfl) 1 (by decide) (hT _ gf_X0_15) rfl rfl rfl (Nat.le_of_ble_eq_true rfl) (by omega) dX0_begins_26 (fun H6 locs c7 oq hS => ?_)
    have h1 : gSg G b (gLA G b (gU (gU f 0 t x) 1 0 ((f 1 0) + 1))) H6 := gSg_set h1 0 c7 oq
    rw [← hQ]
    exact g_vret hx hb hr hlk hS dX0_begins_29 (by rw [show gTb1 f x = gU (gU f 0 t x) 1 0 ((f 1 0) + 1) from by rw [gTb1, if_pos ((gLt (y := 20) (b := 20) ht rfl (by omega) (by omega)).mpr (by omega)), show (f 1 0).toNatClampNeg = t from by rw [ht]; exact nI_clamp (by omega)]]; exact h1)

set_option maxHeartbeats 4000000 in
set_option maxRecDepth 100000 in
theorem c_X9_meaningOf (l : Launch) (G : gW) (t lp : Nat) (π ρ : gPS) (ws : Int32) : gCI l yX9_meaningOf cX9_meaningOf 4 .int (gRm 0 0) G [.ref t, .int ws] (fun H => gSg G t (gLS G t π lp ρ) H) (fun r H => r = gMean (π 1) ws 12) (fun _ => False) := by
  refine g_start (by decide) (Nat.le_of_ble_eq_true rfl) ?_
  intro pp_ ee_ s mm_ aa_ below meth cc_ ls Q hQ hX hE hP hl
  obtain ⟨hx, hb, hr, hml, hown, hT, hlk, hnm⟩ := hX
  have hK := hE.2.1
  have h1 := hP
  have hS : va_S (fun _ => False) s.heap s.heap [] := va_S.rf
  have hl : lv_has ls 4 [(0, .ref t), (1, .int ws)] := hl
  refine lv_iconst (v := 0) hx hb dX9_meaningOf_0 (by decide) ?_
  refine lv_istore_n (lv' := [(2, .int 0), (0, .ref t), (1, .int ws)]) hx hb dX9_meaningOf_1 rfl hl (by decide) rfl (fun ls hl => ?_)
  refine lv_iconst (v := 0) hx hb dX9_meaningOf_2 (by decide) ?_
  refine lv_istore_n (lv' := [(3, .int 0), (2, .int 0), (0, .ref t), (1, .int ws)]) hx hb dX9_meaningOf_3 rfl hl (by decide) rfl (fun ls hl => ?_)
  have loop : ∀ (d k : Nat), k + d = 12 → ∀ ls, lv_has ls 4 [(0, .ref t), (1, .int ws), (2, .int (gMean (π 1) ws k)), (3, .int (nI k))] → W pp_ l ee_ (gRm 0 0) s mm_ aa_ below meth cc_ s.heap [] 0 0 Q (F0 mm_ 4 ls []) := by
    intro d
    induction d with
    | zero =>
      intro k hk   ls hl
      have hk : k = 12 := by omega
      refine lv_iload_n hx hb dX9_meaningOf_4 rfl (lv_at hl 3 rfl) ?_
      refine lv_bipush (v := 12) hx hb dX9_meaningOf_5 (by decide) ?_
      refine lv_icmp_ge (tgt := 33) hx hb dX9_meaningOf_7 (by decide) (fun c1 => ?_) (fun c1 => ?_)
      · have c1 : 12 ≤ k := (gLe (a := 12) (b := k) rfl rfl (by omega) (by omega)).mp c1
        refine lv_iload_n hx hb dX9_meaningOf_33 rfl (lv_at hl 2 rfl) ?_
        rw [← hQ]
        exact g_iret hx hb hr hlk hS dX9_meaningOf_34 (by rw [hk])
      · have c1 : ¬ 12 ≤ k := fun z => c1 ((gLe (a := 12) (b := k) rfl rfl (by omega) (by omega)).mpr z)
        exact absurd c1 (by omega)
    | succ d ih =>
      intro k hk   ls hl
      refine lv_iload_n hx hb dX9_meaningOf_4 rfl (lv_at hl 3 rfl) ?_
      refine lv_bipush (v := 12) hx hb dX9_meaningOf_5 (by decide) ?_
      refine lv_icmp_ge (tgt := 33) hx hb dX9_meaningOf_7 (by decide) (fun c2 => ?_) (fun c2 => ?_)
      · have c2 : 12 ≤ k := (gLe (a := 12) (b := k) rfl rfl (by omega) (by omega)).mp c2
        exact absurd c2 (by omega)
      · have c2 : ¬ 12 ≤ k := fun z => c2 ((gLe (a := 12) (b := k) rfl rfl (by omega) (by omega)).mpr z)
        refine lv_iload_n hx hb dX9_meaningOf_10 rfl (lv_at hl 1 rfl) ?_
        refine lv_iload_n hx hb dX9_meaningOf_11 rfl (lv_at hl 3 rfl) ?_
        refine lv_ishr hx hb dX9_meaningOf_12 ?_
        refine lv_iconst (v := 1) hx hb dX9_meaningOf_13 (by decide) ?_
        refine lv_iand hx hb dX9_meaningOf_14 ?_
        refine lv_if_eq (tgt := 27) hx hb dX9_meaningOf_15 (by decide) (fun c3 => ?_) (fun c3 => ?_)
        · refine lv_iinc (v := nI (k + 1)) (lv' := [(3, .int (nI (k + 1))), (0, .ref t), (1, .int ws), (2, .int (gMean (π 1) ws k))]) hx hb dX9_meaningOf_27 hl (k := 3) rfl (gAdd rfl (show Int32.ofInt 1 = nI 1 from rfl)) (by decide) rfl (fun ls hl => ?_)
          refine lv_goto (tgt := 4) hx hb dX9_meaningOf_30 (by decide) ?_
          exact ih (k + 1) (by omega)   _ (by have hl := lv_sub hl [1, 2, 3, 0] rfl; rw [show (gMean (π 1) ws k : Int32) = gMean (π 1) ws (k + 1) from by rw [gMean, if_pos c3]] at hl; exact hl)
        · refine lv_iload_n hx hb dX9_meaningOf_18 rfl (lv_at hl 2 rfl) ?_
          refine lv_aload_n hx hb dX9_meaningOf_19 rfl (lv_at hl 0 rfl) ?_
          refine g_get (v := .ref (t + 3)) (T := TX9) (ci := 9) (N := 16) hx hb hown hK (gY_X9 hT) rfl (h1 0 _ rfl) 2 (by decide) (hT _ gf_X9_21) rfl dX9_meaningOf_20 ?_
          refine lv_iload_n hx hb dX9_meaningOf_23 rfl (lv_at hl 3 rfl) ?_
          refine g_ia (j := k) (v := π 1 k) hx hb hK (h1 3 _ rfl) rfl (by omega) (Nat.le_of_ble_eq_true rfl) rfl dX9_meaningOf_24 ?_
          refine lv_ior hx hb dX9_meaningOf_25 ?_
          refine lv_istore_n (lv' := [(2, .int ((gMean (π 1) ws k) ||| (π 1 k))), (0, .ref t), (1, .int ws), (3, .int (nI k))]) hx hb dX9_meaningOf_26 rfl hl (by decide) rfl (fun ls hl => ?_)
          refine lv_iinc (v := nI (k + 1)) (lv' := [(3, .int (nI (k + 1))), (2, .int ((gMean (π 1) ws k) ||| (π 1 k))), (0, .ref t), (1, .int ws)]) hx hb dX9_meaningOf_27 hl (k := 3) rfl (gAdd rfl (show Int32.ofInt 1 = nI 1 from rfl)) (by decide) rfl (fun ls hl => ?_)
          refine lv_goto (tgt := 4) hx hb dX9_meaningOf_30 (by decide) ?_
          exact ih (k + 1) (by omega)   _ (by have hl := lv_sub hl [2, 3, 1, 0] rfl; rw [show ((gMean (π 1) ws k) ||| (π 1 k) : Int32) = gMean (π 1) ws (k + 1) from by rw [gMean, if_neg c3]] at hl; exact hl)
  exact loop (12 - 0) 0 (by first | omega | simp)  _ (lv_sub hl [2, 3, 1, 0] rfl)

set_option maxHeartbeats 4000000 in
set_option maxRecDepth 100000 in
theorem c_X9_flownByAll (l : Launch) (G : gW) (t lp : Nat) (π ρ : gPS) (n : Nat) (hz : π 15 0 = nI n) (hn : n ≤ 6) : gCI l yX9_flownByAll cX9_flownByAll 3 .int (gRm 0 0) G [.ref t] (fun H => gSg G t (gLS G t π lp ρ) H) (fun r H => r = gFlown (π 6) n) (fun _ => False) := by
  refine g_start (by decide) (Nat.le_of_ble_eq_true rfl) ?_
  intro pp_ ee_ s mm_ aa_ below meth cc_ ls Q hQ hX hE hP hl
  obtain ⟨hx, hb, hr, hml, hown, hT, hlk, hnm⟩ := hX
  have hK := hE.2.1
  have h1 := hP
  have hS : va_S (fun _ => False) s.heap s.heap [] := va_S.rf
  have hl : lv_has ls 3 [(0, .ref t)] := hl
  refine lv_iconst (v := 0) hx hb dX9_flownByAll_0 (by decide) ?_
  refine lv_istore_n (lv' := [(1, .int 0), (0, .ref t)]) hx hb dX9_flownByAll_1 rfl hl (by decide) rfl (fun ls hl => ?_)
  refine lv_iconst (v := 0) hx hb dX9_flownByAll_2 (by decide) ?_
  refine lv_istore_n (lv' := [(2, .int 0), (1, .int 0), (0, .ref t)]) hx hb dX9_flownByAll_3 rfl hl (by decide) rfl (fun ls hl => ?_)
  have loop : ∀ (d k : Nat), k + d = n → ∀ ls, lv_has ls 3 [(0, .ref t), (1, .int (gFlown (π 6) k)), (2, .int (nI k))] → W pp_ l ee_ (gRm 0 0) s mm_ aa_ below meth cc_ s.heap [] 0 0 Q (F0 mm_ 4 ls []) := by
    intro d
    induction d with
    | zero =>
      intro k hk   ls hl
      have hk : k = n := by omega
      refine lv_iload_n hx hb dX9_flownByAll_4 rfl (lv_at hl 2 rfl) ?_
      refine lv_aload_n hx hb dX9_flownByAll_5 rfl (lv_at hl 0 rfl) ?_
      refine g_get (v := .int (π 15 0)) (T := TX9) (ci := 9) (N := 16) hx hb hown hK (gY_X9 hT) rfl (h1 0 _ rfl) 12 (by decide) (hT _ gf_X9_93) rfl dX9_flownByAll_6 ?_
      refine lv_icmp_ge (tgt := 27) hx hb dX9_flownByAll_9 (by decide) (fun c1 => ?_) (fun c1 => ?_)
      · have c1 : n ≤ k := (gLe (a := n) (b := k) hz rfl (by omega) (by omega)).mp c1
        refine lv_iload_n hx hb dX9_flownByAll_27 rfl (lv_at hl 1 rfl) ?_
        rw [← hQ]
        exact g_iret hx hb hr hlk hS dX9_flownByAll_28 (by rw [hk])
      · have c1 : ¬ n ≤ k := fun z => c1 ((gLe (a := n) (b := k) hz rfl (by omega) (by omega)).mpr z)
        exact absurd c1 (by omega)
    | succ d ih =>
      intro k hk   ls hl
      refine lv_iload_n hx hb dX9_flownByAll_4 rfl (lv_at hl 2 rfl) ?_
      refine lv_aload_n hx hb dX9_flownByAll_5 rfl (lv_at hl 0 rfl) ?_
      refine g_get (v := .int (π 15 0)) (T := TX9) (ci := 9) (N := 16) hx hb hown hK (gY_X9 hT) rfl (h1 0 _ rfl) 12 (by decide) (hT _ gf_X9_93) rfl dX9_flownByAll_6 ?_
      refine lv_icmp_ge (tgt := 27) hx hb dX9_flownByAll_9 (by decide) (fun c2 => ?_) (fun c2 => ?_)
      · have c2 : n ≤ k := (gLe (a := n) (b := k) hz rfl (by omega) (by omega)).mp c2
        exact absurd c2 (by omega)
      · have c2 : ¬ n ≤ k := fun z => c2 ((gLe (a := n) (b := k) hz rfl (by omega) (by omega)).mpr z)
        refine lv_iload_n hx hb dX9_flownByAll_12 rfl (lv_at hl 1 rfl) ?_
        refine lv_aload_n hx hb dX9_flownByAll_13 rfl (lv_at hl 0 rfl) ?_
        refine g_get (v := .ref (t + 8)) (T := TX9) (ci := 9) (N := 16) hx hb hown hK (gY_X9 hT) rfl (h1 0 _ rfl) 7 (by decide) (hT _ gf_X9_36) rfl dX9_flownByAll_14 ?_
        refine lv_iload_n hx hb dX9_flownByAll_17 rfl (lv_at hl 2 rfl) ?_
        refine g_ia (j := k) (v := π 6 k) hx hb hK (h1 8 _ rfl) rfl (by omega) (Nat.le_of_ble_eq_true rfl) rfl dX9_flownByAll_18 ?_
        refine lv_iadd hx hb dX9_flownByAll_19 ?_
        refine lv_istore_n (lv' := [(1, .int ((gFlown (π 6) k) + (π 6 k))), (0, .ref t), (2, .int (nI k))]) hx hb dX9_flownByAll_20 rfl hl (by decide) rfl (fun ls hl => ?_)
        refine lv_iinc (v := nI (k + 1)) (lv' := [(2, .int (nI (k + 1))), (1, .int ((gFlown (π 6) k) + (π 6 k))), (0, .ref t)]) hx hb dX9_flownByAll_21 hl (k := 2) rfl (gAdd rfl (show Int32.ofInt 1 = nI 1 from rfl)) (by decide) rfl (fun ls hl => ?_)
        refine lv_goto (tgt := 4) hx hb dX9_flownByAll_24 (by decide) ?_
        exact ih (k + 1) (by omega)   _ (by have hl := lv_sub hl [2, 1, 0] rfl; rw [show ((gFlown (π 6) k) + (π 6 k) : Int32) = gFlown (π 6) (k + 1) from by rw [gFlown]] at hl; exact hl)
  exact loop (n - 0) 0 (by first | omega | simp)  _ (lv_sub hl [2, 1, 0] rfl)

set_option maxHeartbeats 4000000 in
set_option maxRecDepth 100000 in
theorem c_X9_comes (l : Launch) (G : gW) (t lp : Nat) (π ρ : gPS) (n : Nat) (hz : π 15 0 = nI n) (hn : n ≤ 6) (hn6 : n < 6) (kd v : Int32) : gCI l yX9_comes cX9_comes 3 .int (gRm 0 0) G [.ref t, .int kd, .int v] (fun H => gSg G t (gLS G t π lp ρ) H) (fun r H => r = nI n ∧ gSg G t (gLS G t (gU (gU (gU π 2 n kd) 3 n v) 15 0 (nI (n + 1))) lp ρ) H) (fun q => t ≤ q ∧ q < t + 22) := by
  refine g_start (by decide) (Nat.le_of_ble_eq_true rfl) ?_
  intro pp_ ee_ s mm_ aa_ below meth cc_ ls Q hQ hX hE hP hl
  obtain ⟨hx, hb, hr, hml, hown, hT, hlk, hnm⟩ := hX
  have hK := hE.2.1
  have h1 := hP
  have hS : va_S (fun q => t ≤ q ∧ q < t + 22) s.heap s.heap [] := va_S.rf
  have hl : lv_has ls 3 [(0, .ref t), (1, .int kd), (2, .int v)] := hl
  refine lv_aload_n hx hb dX9_comes_0 rfl (lv_at hl 0 rfl) ?_
  refine g_get (v := .ref (t + 4)) (T := TX9) (ci := 9) (N := 16) hx hb hown hK (gY_X9 hT) rfl (h1 0 _ rfl) 3 (by decide) (hT _ gf_X9_24) rfl dX9_comes_1 ?_
  refine lv_aload_n hx hb dX9_comes_4 rfl (lv_at hl 0 rfl) ?_
  refine g_get (v := .int (π 15 0)) (T := TX9) (ci := 9) (N := 16) hx hb hown hK (gY_X9 hT) rfl (h1 0 _ rfl) 12 (by decide) (hT _ gf_X9_93) rfl dX9_comes_5 ?_
  refine lv_iload_n hx hb dX9_comes_8 rfl (lv_at hl 1 rfl) ?_
  refine g_is (j := n) hx hb hK hS (h1 4 _ rfl) hz (by omega) (Nat.le_of_ble_eq_true rfl) (by omega) dX9_comes_9 (fun H1 locs c2 oq hS => ?_)
  have h1 : gSg G t (gLS G t (gU π 2 n kd) lp ρ) H1 := gSg_set h1 4 c2 oq
  refine lv_aload_n hx hb dX9_comes_10 rfl (lv_at hl 0 rfl) ?_
  refine g_get (v := .ref (t + 5)) (T := TX9) (ci := 9) (N := 16) hx hb hown hK (gY_X9 hT) rfl (h1 0 _ rfl) 4 (by decide) (hT _ gf_X9_27) rfl dX9_comes_11 ?_
  refine lv_aload_n hx hb dX9_comes_14 rfl (lv_at hl 0 rfl) ?_
  refine g_get (v := .int (π 15 0)) (T := TX9) (ci := 9) (N := 16) hx hb hown hK (gY_X9 hT) rfl (h1 0 _ rfl) 12 (by decide) (hT _ gf_X9_93) rfl dX9_comes_15 ?_
  refine lv_iload_n hx hb dX9_comes_18 rfl (lv_at hl 2 rfl) ?_
  refine g_is (j := n) hx hb hK hS (h1 5 _ rfl) hz (by omega) (Nat.le_of_ble_eq_true rfl) (by omega) dX9_comes_19 (fun H3 locs c4 oq hS => ?_)
  have h1 : gSg G t (gLS G t (gU (gU π 2 n kd) 3 n v) lp ρ) H3 := gSg_set h1 5 c4 oq
  refine lv_aload_n hx hb dX9_comes_20 rfl (lv_at hl 0 rfl) ?_
  refine lv_dup hx hb dX9_comes_21 rfl ?_
  refine g_get (v := .int (π 15 0)) (T := TX9) (ci := 9) (N := 16) hx hb hown hK (gY_X9 hT) rfl (h1 0 _ rfl) 12 (by decide) (hT _ gf_X9_93) rfl dX9_comes_22 ?_
  refine lv_iconst (v := 1) hx hb dX9_comes_25 (by decide) ?_
  refine lv_iadd hx hb dX9_comes_26 ?_
  rw [show ((π 15 0) + 1 : Int32) = nI (n + 1) from (gAdd hz rfl)]
  refine g_put (T := TX9) (ci := 9) (N := 16) (ty0 := tyX9) hx hb hown hK hS (gY_X9 hT) tyX9_ok nmX9 rfl (h1 0 _ rfl) 12 (by decide) (hT _ gf_X9_93) rfl rfl rfl (Nat.le_of_ble_eq_true rfl) (by omega) dX9_comes_27 (fun H5 locs c6 oq hS => ?_)
  have h1 : gSg G t (gLS G t (gU (gU (gU π 2 n kd) 3 n v) 15 0 (nI (n + 1))) lp ρ) H5 := gSg_set h1 0 c6 oq
  refine lv_aload_n hx hb dX9_comes_30 rfl (lv_at hl 0 rfl) ?_
  refine g_get (v := .int (nI (n + 1))) (T := TX9) (ci := 9) (N := 16) hx hb hown hK (gY_X9 hT) rfl (h1 0 _ rfl) 12 (by decide) (hT _ gf_X9_93) rfl dX9_comes_31 ?_
  refine lv_iconst (v := 1) hx hb dX9_comes_34 (by decide) ?_
  refine lv_isub hx hb dX9_comes_35 ?_
  rw [show ((nI (n + 1)) - 1 : Int32) = nI ((n + 1) - 1) from (gSub rfl rfl (by omega))]
  rw [← hQ]
  exact g_iret hx hb hr hlk hS dX9_comes_36 ⟨rfl, h1⟩

set_option maxHeartbeats 4000000 in
set_option maxRecDepth 100000 in
theorem c_X8_empties_seen (l : Launch) (G : gW) (t lp : Nat) (π ρ : gPS) : gCI l yX8_empties cX8_empties 1 .int (gRm 0 0) G [.ref (t + 10)] (fun H => gSg G t (gLS G t π lp ρ) H) (fun r H => r = 0 ∧ gSg G t (gLS G t (gU π 15 3 0) lp ρ) H) (fun q => t ≤ q ∧ q < t + 22) := by
  refine g_start (by decide) (Nat.le_of_ble_eq_true rfl) ?_
  intro pp_ ee_ s mm_ aa_ below meth cc_ ls Q hQ hX hE hP hl
  obtain ⟨hx, hb, hr, hml, hown, hT, hlk, hnm⟩ := hX
  have hK := hE.2.1
  have h1 := hP
  have hS : va_S (fun q => t ≤ q ∧ q < t + 22) s.heap s.heap [] := va_S.rf
  have hl : lv_has ls 1 [(0, .ref (t + 10))] := hl
  refine lv_aload_n hx hb dX8_empties_0 rfl (lv_at hl 0 rfl) ?_
  refine lv_iconst (v := 0) hx hb dX8_empties_1 (by decide) ?_
  refine g_put (T := TX8) (ci := 8) (N := 4) (ty0 := tyX8) hx hb hown hK hS (gY_X8 hT) tyX8_ok nmX8 rfl (h1 10 _ rfl) 3 (by decide) (hT _ gf_X8_21) rfl rfl rfl (Nat.le_of_ble_eq_true rfl) (by omega) dX8_empties_2 (fun H1 locs c2 oq hS => ?_)
  have h1 : gSg G t (gLS G t (gU π 15 3 0) lp ρ) H1 := gSg_set h1 10 c2 oq
  refine lv_aload_n hx hb dX8_empties_5 rfl (lv_at hl 0 rfl) ?_
  refine g_get (v := .int 0) (T := TX8) (ci := 8) (N := 4) hx hb hown hK (gY_X8 hT) rfl (h1 10 _ rfl) 3 (by decide) (hT _ gf_X8_21) rfl dX8_empties_6 ?_
  rw [← hQ]
  exact g_iret hx hb hr hlk hS dX8_empties_9 ⟨rfl, h1⟩

set_option maxHeartbeats 4000000 in
set_option maxRecDepth 100000 in
theorem c_X8_takes_seen (l : Launch) (G : gW) (t lp : Nat) (π ρ : gPS) (zn : Nat) (hz9 : π 15 3 = nI zn) (hzl : zn ≤ 5) (x y u : Int32) : gCI l yX8_takes cX8_takes 4 .int (gRm 0 0) G [.ref (t + 10), .int x, .int y, .int u] (fun H => gSg G t (gLS G t π lp ρ) H) (fun r H => r = (if zn = 5 then -4 else nI (zn + 1)) ∧ gSg G t (gLS G t (if zn = 5 then π else gU π 15 3 (nI (zn + 1))) lp (if zn = 5 then ρ else gU (gU (gU ρ 0 zn x) 1 zn y) 2 zn u)) H) (fun q => t ≤ q ∧ q < t + 22) := by
  refine g_start (by decide) (Nat.le_of_ble_eq_true rfl) ?_
  intro pp_ ee_ s mm_ aa_ below meth cc_ ls Q hQ hX hE hP hl
  obtain ⟨hx, hb, hr, hml, hown, hT, hlk, hnm⟩ := hX
  have hK := hE.2.1
  have h1 := hP
  have hS : va_S (fun q => t ≤ q ∧ q < t + 22) s.heap s.heap [] := va_S.rf
  have hl : lv_has ls 4 [(0, .ref (t + 10)), (1, .int x), (2, .int y), (3, .int u)] := hl
  refine lv_aload_n hx hb dX8_takes_0 rfl (lv_at hl 0 rfl) ?_
  refine g_get (v := .int (π 15 3)) (T := TX8) (ci := 8) (N := 4) hx hb hown hK (gY_X8 hT) rfl (h1 10 _ rfl) 3 (by decide) (hT _ gf_X8_21) rfl dX8_takes_1 ?_
  refine lv_aload_n hx hb dX8_takes_4 rfl (lv_at hl 0 rfl) ?_
  refine g_get (v := .ref (t + 11)) (T := TX8) (ci := 8) (N := 4) hx hb hown hK (gY_X8 hT) rfl (h1 10 _ rfl) 0 (by decide) (hT _ gf_X8_9) rfl dX8_takes_5 ?_
  refine g_alen (v := 5) 0 hx hb hK (h1 11 _ rfl) rfl rfl dX8_takes_8 ?_
  refine lv_icmp_lt (tgt := 15) hx hb dX8_takes_9 (by decide) (fun c1 => ?_) (fun c1 => ?_)
  · have c1 : zn < 5 := (gLt (a := zn) (b := 5) hz9 rfl (by omega) (by omega)).mp c1
    refine lv_aload_n hx hb dX8_takes_15 rfl (lv_at hl 0 rfl) ?_
    refine g_get (v := .ref (t + 11)) (T := TX8) (ci := 8) (N := 4) hx hb hown hK (gY_X8 hT) rfl (h1 10 _ rfl) 0 (by decide) (hT _ gf_X8_9) rfl dX8_takes_16 ?_
    refine lv_aload_n hx hb dX8_takes_19 rfl (lv_at hl 0 rfl) ?_
    refine g_get (v := .int (π 15 3)) (T := TX8) (ci := 8) (N := 4) hx hb hown hK (gY_X8 hT) rfl (h1 10 _ rfl) 3 (by decide) (hT _ gf_X8_21) rfl dX8_takes_20 ?_
    refine lv_iload_n hx hb dX8_takes_23 rfl (lv_at hl 1 rfl) ?_
    refine g_is (j := zn) hx hb hK hS (h1 11 _ rfl) hz9 (by omega) (Nat.le_of_ble_eq_true rfl) (by omega) dX8_takes_24 (fun H2 locs c3 oq hS => ?_)
    have h1 : gSg G t (gLS G t π lp (gU ρ 0 zn x)) H2 := gSg_set h1 11 c3 oq
    refine lv_aload_n hx hb dX8_takes_25 rfl (lv_at hl 0 rfl) ?_
    refine g_get (v := .ref (t + 12)) (T := TX8) (ci := 8) (N := 4) hx hb hown hK (gY_X8 hT) rfl (h1 10 _ rfl) 1 (by decide) (hT _ gf_X8_15) rfl dX8_takes_26 ?_
    refine lv_aload_n hx hb dX8_takes_29 rfl (lv_at hl 0 rfl) ?_
    refine g_get (v := .int (π 15 3)) (T := TX8) (ci := 8) (N := 4) hx hb hown hK (gY_X8 hT) rfl (h1 10 _ rfl) 3 (by decide) (hT _ gf_X8_21) rfl dX8_takes_30 ?_
    refine lv_iload_n hx hb dX8_takes_33 rfl (lv_at hl 2 rfl) ?_
    refine g_is (j := zn) hx hb hK hS (h1 12 _ rfl) hz9 (by omega) (Nat.le_of_ble_eq_true rfl) (by omega) dX8_takes_34 (fun H4 locs c5 oq hS => ?_)
    have h1 : gSg G t (gLS G t π lp (gU (gU ρ 0 zn x) 1 zn y)) H4 := gSg_set h1 12 c5 oq
    refine lv_aload_n hx hb dX8_takes_35 rfl (lv_at hl 0 rfl) ?_
    refine g_get (v := .ref (t + 13)) (T := TX8) (ci := 8) (N := 4) hx hb hown hK (gY_X8 hT) rfl (h1 10 _ rfl) 2 (by decide) (hT _ gf_X8_18) rfl dX8_takes_36 ?_
    refine lv_aload_n hx hb dX8_takes_39 rfl (lv_at hl 0 rfl) ?_
    refine g_get (v := .int (π 15 3)) (T := TX8) (ci := 8) (N := 4) hx hb hown hK (gY_X8 hT) rfl (h1 10 _ rfl) 3 (by decide) (hT _ gf_X8_21) rfl dX8_takes_40 ?_
    refine lv_iload_n hx hb dX8_takes_43 rfl (lv_at hl 3 rfl) ?_
    refine g_is (j := zn) hx hb hK hS (h1 13 _ rfl) hz9 (by omega) (Nat.le_of_ble_eq_true rfl) (by omega) dX8_takes_44 (fun H6 locs c7 oq hS => ?_)
    have h1 : gSg G t (gLS G t π lp (gU (gU (gU ρ 0 zn x) 1 zn y) 2 zn u)) H6 := gSg_set h1 13 c7 oq
    refine lv_aload_n hx hb dX8_takes_45 rfl (lv_at hl 0 rfl) ?_
    refine lv_dup hx hb dX8_takes_46 rfl ?_
    refine g_get (v := .int (π 15 3)) (T := TX8) (ci := 8) (N := 4) hx hb hown hK (gY_X8 hT) rfl (h1 10 _ rfl) 3 (by decide) (hT _ gf_X8_21) rfl dX8_takes_47 ?_
    refine lv_iconst (v := 1) hx hb dX8_takes_50 (by decide) ?_
    refine lv_iadd hx hb dX8_takes_51 ?_
    rw [show ((π 15 3) + 1 : Int32) = nI (zn + 1) from (gAdd hz9 rfl)]
    refine g_put (T := TX8) (ci := 8) (N := 4) (ty0 := tyX8) hx hb hown hK hS (gY_X8 hT) tyX8_ok nmX8 rfl (h1 10 _ rfl) 3 (by decide) (hT _ gf_X8_21) rfl rfl rfl (Nat.le_of_ble_eq_true rfl) (by omega) dX8_takes_52 (fun H8 locs c9 oq hS => ?_)
    have h1 : gSg G t (gLS G t (gU π 15 3 (nI (zn + 1))) lp (gU (gU (gU ρ 0 zn x) 1 zn y) 2 zn u)) H8 := gSg_set h1 10 c9 oq
    refine lv_aload_n hx hb dX8_takes_55 rfl (lv_at hl 0 rfl) ?_
    refine g_get (v := .int (nI (zn + 1))) (T := TX8) (ci := 8) (N := 4) hx hb hown hK (gY_X8 hT) rfl (h1 10 _ rfl) 3 (by decide) (hT _ gf_X8_21) rfl dX8_takes_56 ?_
    rw [← hQ]
    exact g_iret hx hb hr hlk hS dX8_takes_59 ⟨by rw [if_neg (show ¬ zn = 5 from by omega)], by rw [if_neg (show ¬ zn = 5 from by omega), if_neg (show ¬ zn = 5 from by omega)]; exact h1⟩
  · have c1 : ¬ zn < 5 := fun z => c1 ((gLt (a := zn) (b := 5) hz9 rfl (by omega) (by omega)).mpr z)
    refine lv_bipush (v := (-4)) hx hb dX8_takes_12 (by decide) ?_
    rw [← hQ]
    exact g_iret hx hb hr hlk hS dX8_takes_14 ⟨by rw [if_pos (show zn = 5 from by omega)], by rw [if_pos (show zn = 5 from by omega), if_pos (show zn = 5 from by omega)]; exact h1⟩

set_option maxHeartbeats 4000000 in
set_option maxRecDepth 100000 in
theorem c_X8_empties_plan (l : Launch) (G : gW) (t lp : Nat) (π ρ : gPS) : gCI l yX8_empties cX8_empties 1 .int (gRm 0 0) G [.ref (t + 14)] (fun H => gSg G t (gLS G t π lp ρ) H) (fun r H => r = 0 ∧ gSg G t (gLS G t (gU π 15 4 0) lp ρ) H) (fun q => t ≤ q ∧ q < t + 22) := by
  refine g_start (by decide) (Nat.le_of_ble_eq_true rfl) ?_
  intro pp_ ee_ s mm_ aa_ below meth cc_ ls Q hQ hX hE hP hl
  obtain ⟨hx, hb, hr, hml, hown, hT, hlk, hnm⟩ := hX
  have hK := hE.2.1
  have h1 := hP
  have hS : va_S (fun q => t ≤ q ∧ q < t + 22) s.heap s.heap [] := va_S.rf
  have hl : lv_has ls 1 [(0, .ref (t + 14))] := hl
  refine lv_aload_n hx hb dX8_empties_0 rfl (lv_at hl 0 rfl) ?_
  refine lv_iconst (v := 0) hx hb dX8_empties_1 (by decide) ?_
  refine g_put (T := TX8) (ci := 8) (N := 4) (ty0 := tyX8) hx hb hown hK hS (gY_X8 hT) tyX8_ok nmX8 rfl (h1 14 _ rfl) 3 (by decide) (hT _ gf_X8_21) rfl rfl rfl (Nat.le_of_ble_eq_true rfl) (by omega) dX8_empties_2 (fun H1 locs c2 oq hS => ?_)
  have h1 : gSg G t (gLS G t (gU π 15 4 0) lp ρ) H1 := gSg_set h1 14 c2 oq
  refine lv_aload_n hx hb dX8_empties_5 rfl (lv_at hl 0 rfl) ?_
  refine g_get (v := .int 0) (T := TX8) (ci := 8) (N := 4) hx hb hown hK (gY_X8 hT) rfl (h1 14 _ rfl) 3 (by decide) (hT _ gf_X8_21) rfl dX8_empties_6 ?_
  rw [← hQ]
  exact g_iret hx hb hr hlk hS dX8_empties_9 ⟨rfl, h1⟩

set_option maxHeartbeats 4000000 in
set_option maxRecDepth 100000 in
theorem c_X8_takes_plan (l : Launch) (G : gW) (t lp : Nat) (π ρ : gPS) (zn : Nat) (hz9 : π 15 4 = nI zn) (hzl : zn ≤ 10) (x y u : Int32) : gCI l yX8_takes cX8_takes 4 .int (gRm 0 0) G [.ref (t + 14), .int x, .int y, .int u] (fun H => gSg G t (gLS G t π lp ρ) H) (fun r H => r = (if zn = 10 then -4 else nI (zn + 1)) ∧ gSg G t (gLS G t (if zn = 10 then π else gU π 15 4 (nI (zn + 1))) lp (if zn = 10 then ρ else gU (gU (gU ρ 3 zn x) 4 zn y) 5 zn u)) H) (fun q => t ≤ q ∧ q < t + 22) := by
  refine g_start (by decide) (Nat.le_of_ble_eq_true rfl) ?_
  intro pp_ ee_ s mm_ aa_ below meth cc_ ls Q hQ hX hE hP hl
  obtain ⟨hx, hb, hr, hml, hown, hT, hlk, hnm⟩ := hX
  have hK := hE.2.1
  have h1 := hP
  have hS : va_S (fun q => t ≤ q ∧ q < t + 22) s.heap s.heap [] := va_S.rf
  have hl : lv_has ls 4 [(0, .ref (t + 14)), (1, .int x), (2, .int y), (3, .int u)] := hl
  refine lv_aload_n hx hb dX8_takes_0 rfl (lv_at hl 0 rfl) ?_
  refine g_get (v := .int (π 15 4)) (T := TX8) (ci := 8) (N := 4) hx hb hown hK (gY_X8 hT) rfl (h1 14 _ rfl) 3 (by decide) (hT _ gf_X8_21) rfl dX8_takes_1 ?_
  refine lv_aload_n hx hb dX8_takes_4 rfl (lv_at hl 0 rfl) ?_
  refine g_get (v := .ref (t + 15)) (T := TX8) (ci := 8) (N := 4) hx hb hown hK (gY_X8 hT) rfl (h1 14 _ rfl) 0 (by decide) (hT _ gf_X8_9) rfl dX8_takes_5 ?_
  refine g_alen (v := 10) 0 hx hb hK (h1 15 _ rfl) rfl rfl dX8_takes_8 ?_
  refine lv_icmp_lt (tgt := 15) hx hb dX8_takes_9 (by decide) (fun c1 => ?_) (fun c1 => ?_)
  · have c1 : zn < 10 := (gLt (a := zn) (b := 10) hz9 rfl (by omega) (by omega)).mp c1
    refine lv_aload_n hx hb dX8_takes_15 rfl (lv_at hl 0 rfl) ?_
    refine g_get (v := .ref (t + 15)) (T := TX8) (ci := 8) (N := 4) hx hb hown hK (gY_X8 hT) rfl (h1 14 _ rfl) 0 (by decide) (hT _ gf_X8_9) rfl dX8_takes_16 ?_
    refine lv_aload_n hx hb dX8_takes_19 rfl (lv_at hl 0 rfl) ?_
    refine g_get (v := .int (π 15 4)) (T := TX8) (ci := 8) (N := 4) hx hb hown hK (gY_X8 hT) rfl (h1 14 _ rfl) 3 (by decide) (hT _ gf_X8_21) rfl dX8_takes_20 ?_
    refine lv_iload_n hx hb dX8_takes_23 rfl (lv_at hl 1 rfl) ?_
    refine g_is (j := zn) hx hb hK hS (h1 15 _ rfl) hz9 (by omega) (Nat.le_of_ble_eq_true rfl) (by omega) dX8_takes_24 (fun H2 locs c3 oq hS => ?_)
    have h1 : gSg G t (gLS G t π lp (gU ρ 3 zn x)) H2 := gSg_set h1 15 c3 oq
    refine lv_aload_n hx hb dX8_takes_25 rfl (lv_at hl 0 rfl) ?_
    refine g_get (v := .ref (t + 16)) (T := TX8) (ci := 8) (N := 4) hx hb hown hK (gY_X8 hT) rfl (h1 14 _ rfl) 1 (by decide) (hT _ gf_X8_15) rfl dX8_takes_26 ?_
    refine lv_aload_n hx hb dX8_takes_29 rfl (lv_at hl 0 rfl) ?_
    refine g_get (v := .int (π 15 4)) (T := TX8) (ci := 8) (N := 4) hx hb hown hK (gY_X8 hT) rfl (h1 14 _ rfl) 3 (by decide) (hT _ gf_X8_21) rfl dX8_takes_30 ?_
    refine lv_iload_n hx hb dX8_takes_33 rfl (lv_at hl 2 rfl) ?_
    refine g_is (j := zn) hx hb hK hS (h1 16 _ rfl) hz9 (by omega) (Nat.le_of_ble_eq_true rfl) (by omega) dX8_takes_34 (fun H4 locs c5 oq hS => ?_)
    have h1 : gSg G t (gLS G t π lp (gU (gU ρ 3 zn x) 4 zn y)) H4 := gSg_set h1 16 c5 oq
    refine lv_aload_n hx hb dX8_takes_35 rfl (lv_at hl 0 rfl) ?_
    refine g_get (v := .ref (t + 17)) (T := TX8) (ci := 8) (N := 4) hx hb hown hK (gY_X8 hT) rfl (h1 14 _ rfl) 2 (by decide) (hT _ gf_X8_18) rfl dX8_takes_36 ?_
    refine lv_aload_n hx hb dX8_takes_39 rfl (lv_at hl 0 rfl) ?_
    refine g_get (v := .int (π 15 4)) (T := TX8) (ci := 8) (N := 4) hx hb hown hK (gY_X8 hT) rfl (h1 14 _ rfl) 3 (by decide) (hT _ gf_X8_21) rfl dX8_takes_40 ?_
    refine lv_iload_n hx hb dX8_takes_43 rfl (lv_at hl 3 rfl) ?_
    refine g_is (j := zn) hx hb hK hS (h1 17 _ rfl) hz9 (by omega) (Nat.le_of_ble_eq_true rfl) (by omega) dX8_takes_44 (fun H6 locs c7 oq hS => ?_)
    have h1 : gSg G t (gLS G t π lp (gU (gU (gU ρ 3 zn x) 4 zn y) 5 zn u)) H6 := gSg_set h1 17 c7 oq
    refine lv_aload_n hx hb dX8_takes_45 rfl (lv_at hl 0 rfl) ?_
    refine lv_dup hx hb dX8_takes_46 rfl ?_
    refine g_get (v := .int (π 15 4)) (T := TX8) (ci := 8) (N := 4) hx hb hown hK (gY_X8 hT) rfl (h1 14 _ rfl) 3 (by decide) (hT _ gf_X8_21) rfl dX8_takes_47 ?_
    refine lv_iconst (v := 1) hx hb dX8_takes_50 (by decide) ?_
    refine lv_iadd hx hb dX8_takes_51 ?_
    rw [show ((π 15 4) + 1 : Int32) = nI (zn + 1) from (gAdd hz9 rfl)]
    refine g_put (T := TX8) (ci := 8) (N := 4) (ty0 := tyX8) hx hb hown hK hS (gY_X8 hT) tyX8_ok nmX8 rfl (h1 14 _ rfl) 3 (by decide) (hT _ gf_X8_21) rfl rfl rfl (Nat.le_of_ble_eq_true rfl) (by omega) dX8_takes_52 (fun H8 locs c9 oq hS => ?_)
    have h1 : gSg G t (gLS G t (gU π 15 4 (nI (zn + 1))) lp (gU (gU (gU ρ 3 zn x) 4 zn y) 5 zn u)) H8 := gSg_set h1 14 c9 oq
    refine lv_aload_n hx hb dX8_takes_55 rfl (lv_at hl 0 rfl) ?_
    refine g_get (v := .int (nI (zn + 1))) (T := TX8) (ci := 8) (N := 4) hx hb hown hK (gY_X8 hT) rfl (h1 14 _ rfl) 3 (by decide) (hT _ gf_X8_21) rfl dX8_takes_56 ?_
    rw [← hQ]
    exact g_iret hx hb hr hlk hS dX8_takes_59 ⟨by rw [if_neg (show ¬ zn = 10 from by omega)], by rw [if_neg (show ¬ zn = 10 from by omega), if_neg (show ¬ zn = 10 from by omega)]; exact h1⟩
  · have c1 : ¬ zn < 10 := fun z => c1 ((gLt (a := zn) (b := 10) hz9 rfl (by omega) (by omega)).mpr z)
    refine lv_bipush (v := (-4)) hx hb dX8_takes_12 (by decide) ?_
    rw [← hQ]
    exact g_iret hx hb hr hlk hS dX8_takes_14 ⟨by rw [if_pos (show zn = 10 from by omega)], by rw [if_pos (show zn = 10 from by omega), if_pos (show zn = 10 from by omega)]; exact h1⟩

set_option maxHeartbeats 4000000 in
set_option maxRecDepth 100000 in
theorem c_X8_empties_book (l : Launch) (G : gW) (t lp : Nat) (π ρ : gPS) : gCI l yX8_empties cX8_empties 1 .int (gRm 0 0) G [.ref (t + 18)] (fun H => gSg G t (gLS G t π lp ρ) H) (fun r H => r = 0 ∧ gSg G t (gLS G t (gU π 15 5 0) lp ρ) H) (fun q => t ≤ q ∧ q < t + 22) := by
  refine g_start (by decide) (Nat.le_of_ble_eq_true rfl) ?_
  intro pp_ ee_ s mm_ aa_ below meth cc_ ls Q hQ hX hE hP hl
  obtain ⟨hx, hb, hr, hml, hown, hT, hlk, hnm⟩ := hX
  have hK := hE.2.1
  have h1 := hP
  have hS : va_S (fun q => t ≤ q ∧ q < t + 22) s.heap s.heap [] := va_S.rf
  have hl : lv_has ls 1 [(0, .ref (t + 18))] := hl
  refine lv_aload_n hx hb dX8_empties_0 rfl (lv_at hl 0 rfl) ?_
  refine lv_iconst (v := 0) hx hb dX8_empties_1 (by decide) ?_
  refine g_put (T := TX8) (ci := 8) (N := 4) (ty0 := tyX8) hx hb hown hK hS (gY_X8 hT) tyX8_ok nmX8 rfl (h1 18 _ rfl) 3 (by decide) (hT _ gf_X8_21) rfl rfl rfl (Nat.le_of_ble_eq_true rfl) (by omega) dX8_empties_2 (fun H1 locs c2 oq hS => ?_)
  have h1 : gSg G t (gLS G t (gU π 15 5 0) lp ρ) H1 := gSg_set h1 18 c2 oq
  refine lv_aload_n hx hb dX8_empties_5 rfl (lv_at hl 0 rfl) ?_
  refine g_get (v := .int 0) (T := TX8) (ci := 8) (N := 4) hx hb hown hK (gY_X8 hT) rfl (h1 18 _ rfl) 3 (by decide) (hT _ gf_X8_21) rfl dX8_empties_6 ?_
  rw [← hQ]
  exact g_iret hx hb hr hlk hS dX8_empties_9 ⟨rfl, h1⟩

set_option maxHeartbeats 4000000 in
set_option maxRecDepth 100000 in
theorem c_X8_takes_book (l : Launch) (G : gW) (t lp : Nat) (π ρ : gPS) (zn : Nat) (hz9 : π 15 5 = nI zn) (hzl : zn ≤ 8) (x y u : Int32) : gCI l yX8_takes cX8_takes 4 .int (gRm 0 0) G [.ref (t + 18), .int x, .int y, .int u] (fun H => gSg G t (gLS G t π lp ρ) H) (fun r H => r = (if zn = 8 then -4 else nI (zn + 1)) ∧ gSg G t (gLS G t (if zn = 8 then π else gU π 15 5 (nI (zn + 1))) lp (if zn = 8 then ρ else gU (gU (gU ρ 6 zn x) 7 zn y) 8 zn u)) H) (fun q => t ≤ q ∧ q < t + 22) := by
  refine g_start (by decide) (Nat.le_of_ble_eq_true rfl) ?_
  intro pp_ ee_ s mm_ aa_ below meth cc_ ls Q hQ hX hE hP hl
  obtain ⟨hx, hb, hr, hml, hown, hT, hlk, hnm⟩ := hX
  have hK := hE.2.1
  have h1 := hP
  have hS : va_S (fun q => t ≤ q ∧ q < t + 22) s.heap s.heap [] := va_S.rf
  have hl : lv_has ls 4 [(0, .ref (t + 18)), (1, .int x), (2, .int y), (3, .int u)] := hl
  refine lv_aload_n hx hb dX8_takes_0 rfl (lv_at hl 0 rfl) ?_
  refine g_get (v := .int (π 15 5)) (T := TX8) (ci := 8) (N := 4) hx hb hown hK (gY_X8 hT) rfl (h1 18 _ rfl) 3 (by decide) (hT _ gf_X8_21) rfl dX8_takes_1 ?_
  refine lv_aload_n hx hb dX8_takes_4 rfl (lv_at hl 0 rfl) ?_
  refine g_get (v := .ref (t + 19)) (T := TX8) (ci := 8) (N := 4) hx hb hown hK (gY_X8 hT) rfl (h1 18 _ rfl) 0 (by decide) (hT _ gf_X8_9) rfl dX8_takes_5 ?_
  refine g_alen (v := 8) 0 hx hb hK (h1 19 _ rfl) rfl rfl dX8_takes_8 ?_
  refine lv_icmp_lt (tgt := 15) hx hb dX8_takes_9 (by decide) (fun c1 => ?_) (fun c1 => ?_)
  · have c1 : zn < 8 := (gLt (a := zn) (b := 8) hz9 rfl (by omega) (by omega)).mp c1
    refine lv_aload_n hx hb dX8_takes_15 rfl (lv_at hl 0 rfl) ?_
    refine g_get (v := .ref (t + 19)) (T := TX8) (ci := 8) (N := 4) hx hb hown hK (gY_X8 hT) rfl (h1 18 _ rfl) 0 (by decide) (hT _ gf_X8_9) rfl dX8_takes_16 ?_
    refine lv_aload_n hx hb dX8_takes_19 rfl (lv_at hl 0 rfl) ?_
    refine g_get (v := .int (π 15 5)) (T := TX8) (ci := 8) (N := 4) hx hb hown hK (gY_X8 hT) rfl (h1 18 _ rfl) 3 (by decide) (hT _ gf_X8_21) rfl dX8_takes_20 ?_
    refine lv_iload_n hx hb dX8_takes_23 rfl (lv_at hl 1 rfl) ?_
    refine g_is (j := zn) hx hb hK hS (h1 19 _ rfl) hz9 (by omega) (Nat.le_of_ble_eq_true rfl) (by omega) dX8_takes_24 (fun H2 locs c3 oq hS => ?_)
    have h1 : gSg G t (gLS G t π lp (gU ρ 6 zn x)) H2 := gSg_set h1 19 c3 oq
    refine lv_aload_n hx hb dX8_takes_25 rfl (lv_at hl 0 rfl) ?_
    refine g_get (v := .ref (t + 20)) (T := TX8) (ci := 8) (N := 4) hx hb hown hK (gY_X8 hT) rfl (h1 18 _ rfl) 1 (by decide) (hT _ gf_X8_15) rfl dX8_takes_26 ?_
    refine lv_aload_n hx hb dX8_takes_29 rfl (lv_at hl 0 rfl) ?_
    refine g_get (v := .int (π 15 5)) (T := TX8) (ci := 8) (N := 4) hx hb hown hK (gY_X8 hT) rfl (h1 18 _ rfl) 3 (by decide) (hT _ gf_X8_21) rfl dX8_takes_30 ?_
    refine lv_iload_n hx hb dX8_takes_33 rfl (lv_at hl 2 rfl) ?_
    refine g_is (j := zn) hx hb hK hS (h1 20 _ rfl) hz9 (by omega) (Nat.le_of_ble_eq_true rfl) (by omega) dX8_takes_34 (fun H4 locs c5 oq hS => ?_)
    have h1 : gSg G t (gLS G t π lp (gU (gU ρ 6 zn x) 7 zn y)) H4 := gSg_set h1 20 c5 oq
    refine lv_aload_n hx hb dX8_takes_35 rfl (lv_at hl 0 rfl) ?_
    refine g_get (v := .ref (t + 21)) (T := TX8) (ci := 8) (N := 4) hx hb hown hK (gY_X8 hT) rfl (h1 18 _ rfl) 2 (by decide) (hT _ gf_X8_18) rfl dX8_takes_36 ?_
    refine lv_aload_n hx hb dX8_takes_39 rfl (lv_at hl 0 rfl) ?_
    refine g_get (v := .int (π 15 5)) (T := TX8) (ci := 8) (N := 4) hx hb hown hK (gY_X8 hT) rfl (h1 18 _ rfl) 3 (by decide) (hT _ gf_X8_21) rfl dX8_takes_40 ?_
    refine lv_iload_n hx hb dX8_takes_43 rfl (lv_at hl 3 rfl) ?_
    refine g_is (j := zn) hx hb hK hS (h1 21 _ rfl) hz9 (by omega) (Nat.le_of_ble_eq_true rfl) (by omega) dX8_takes_44 (fun H6 locs c7 oq hS => ?_)
    have h1 : gSg G t (gLS G t π lp (gU (gU (gU ρ 6 zn x) 7 zn y) 8 zn u)) H6 := gSg_set h1 21 c7 oq
    refine lv_aload_n hx hb dX8_takes_45 rfl (lv_at hl 0 rfl) ?_
    refine lv_dup hx hb dX8_takes_46 rfl ?_
    refine g_get (v := .int (π 15 5)) (T := TX8) (ci := 8) (N := 4) hx hb hown hK (gY_X8 hT) rfl (h1 18 _ rfl) 3 (by decide) (hT _ gf_X8_21) rfl dX8_takes_47 ?_
    refine lv_iconst (v := 1) hx hb dX8_takes_50 (by decide) ?_
    refine lv_iadd hx hb dX8_takes_51 ?_
    rw [show ((π 15 5) + 1 : Int32) = nI (zn + 1) from (gAdd hz9 rfl)]
    refine g_put (T := TX8) (ci := 8) (N := 4) (ty0 := tyX8) hx hb hown hK hS (gY_X8 hT) tyX8_ok nmX8 rfl (h1 18 _ rfl) 3 (by decide) (hT _ gf_X8_21) rfl rfl rfl (Nat.le_of_ble_eq_true rfl) (by omega) dX8_takes_52 (fun H8 locs c9 oq hS => ?_)
    have h1 : gSg G t (gLS G t (gU π 15 5 (nI (zn + 1))) lp (gU (gU (gU ρ 6 zn x) 7 zn y) 8 zn u)) H8 := gSg_set h1 18 c9 oq
    refine lv_aload_n hx hb dX8_takes_55 rfl (lv_at hl 0 rfl) ?_
    refine g_get (v := .int (nI (zn + 1))) (T := TX8) (ci := 8) (N := 4) hx hb hown hK (gY_X8 hT) rfl (h1 18 _ rfl) 3 (by decide) (hT _ gf_X8_21) rfl dX8_takes_56 ?_
    rw [← hQ]
    exact g_iret hx hb hr hlk hS dX8_takes_59 ⟨by rw [if_neg (show ¬ zn = 8 from by omega)], by rw [if_neg (show ¬ zn = 8 from by omega), if_neg (show ¬ zn = 8 from by omega)]; exact h1⟩
  · have c1 : ¬ zn < 8 := fun z => c1 ((gLt (a := zn) (b := 8) hz9 rfl (by omega) (by omega)).mpr z)
    refine lv_bipush (v := (-4)) hx hb dX8_takes_12 (by decide) ?_
    rw [← hQ]
    exact g_iret hx hb hr hlk hS dX8_takes_14 ⟨by rw [if_pos (show zn = 8 from by omega)], by rw [if_pos (show zn = 8 from by omega), if_pos (show zn = 8 from by omega)]; exact h1⟩
