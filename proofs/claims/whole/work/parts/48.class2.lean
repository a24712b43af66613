set_option maxHeartbeats 4000000 in
set_option maxRecDepth 100000 in
theorem c_X5_takesSign (l : Launch) (G : gW) (t : Nat) (f : gPS) (n : Nat) (hT9 : gTx (f 0) n) (E : Nat → Int32) (p c : Nat) (wd rs : Int32) (hp : p ≤ n) (hc : c + (n - p) ≤ 100) (z : Int32) : gCI l yX5_takesSign cX5_takesSign 2 .boolean (gRm 0 0) G [.ref t, .int z] (fun H => gSg G t (gLL G t (gR (gR f 1 E) 5 (gS6 (nI n) (nI p) (nI c) wd rs))) H) (fun r H => r = gB (p < n ∧ f 0 p = z) ∧ gSg G t (gLL G t (gR (gR f 1 E) 5 (gS6 (nI n) (nI (if p < n ∧ f 0 p = z then p + 1 else p)) (nI c) wd rs))) H) (fun q => t ≤ q ∧ q < t + 6) := by
  refine g_start (by decide) (Nat.le_of_ble_eq_true rfl) ?_
  intro pp_ ee_ s mm_ aa_ below meth cc_ ls Q hQ hX hE hP hl
  obtain ⟨hx, hb, hr, hml, hown, hT, hlk, hnm⟩ := hX
  have hK := hE.2.1
  have h1 := hP
  have hS : va_S (fun q => t ≤ q ∧ q < t + 6) s.heap s.heap [] := va_S.rf
  have hl : lv_has ls 2 [(0, .ref t), (1, .int z)] := hl
  have hn9 : n ≤ 100 := hT9.1
  refine lv_aload_n hx hb dX5_takesSign_0 rfl (lv_at hl 0 rfl) ?_
  refine g_get (v := .int (nI p)) (T := TX5) (ci := 5) (N := 10) hx hb hown hK (gY_X5 hT) rfl (h1 0 _ rfl) 2 (by decide) (hT _ gf_X5_55) rfl dX5_takesSign_1 ?_
  refine lv_aload_n hx hb dX5_takesSign_4 rfl (lv_at hl 0 rfl) ?_
  refine g_get (v := .int (nI n)) (T := TX5) (ci := 5) (N := 10) hx hb hown hK (gY_X5 hT) rfl (h1 0 _ rfl) 1 (by decide) (hT _ gf_X5_46) rfl dX5_takesSign_5 ?_
  refine lv_icmp_ge (tgt := 24) hx hb dX5_takesSign_8 (by decide) (fun c1 => ?_) (fun c1 => ?_)
  · have c1 : n ≤ p := (gLe (a := n) (b := p) rfl rfl (by omega) (by omega)).mp c1
    refine lv_iconst (v := 0) hx hb dX5_takesSign_24 (by decide) ?_
    rw [← hQ]
    exact g_zret hx hb hr hlk rfl hS dX5_takesSign_25 ⟨(gB_f (fun z9 => absurd z9.1 (by omega))).symm, by rw [if_neg (fun z9 => absurd z9.1 (by omega))]; exact h1⟩
  · have c1 : ¬ n ≤ p := fun z => c1 ((gLe (a := n) (b := p) rfl rfl (by omega) (by omega)).mpr z)
    refine lv_aload_n hx hb dX5_takesSign_11 rfl (lv_at hl 0 rfl) ?_
    refine g_get (v := .ref (t + 1)) (T := TX5) (ci := 5) (N := 10) hx hb hown hK (gY_X5 hT) rfl (h1 0 _ rfl) 0 (by decide) (hT _ gf_X5_9) rfl dX5_takesSign_12 ?_
    refine lv_aload_n hx hb dX5_takesSign_15 rfl (lv_at hl 0 rfl) ?_
    refine g_get (v := .int (nI p)) (T := TX5) (ci := 5) (N := 10) hx hb hown hK (gY_X5 hT) rfl (h1 0 _ rfl) 2 (by decide) (hT _ gf_X5_55) rfl dX5_takesSign_16 ?_
    refine g_ba (j := p) (v := f 0 p) hx hb hK (h1 1 _ rfl) rfl (by omega) (Nat.le_of_ble_eq_true rfl) rfl dX5_takesSign_19 ?_
    refine lv_iload_n hx hb dX5_takesSign_20 rfl (lv_at hl 1 rfl) ?_
    refine lv_icmp_eq (tgt := 26) hx hb dX5_takesSign_21 (by decide) (fun c2 => ?_) (fun c2 => ?_)
    · refine lv_aload_n hx hb dX5_takesSign_26 rfl (lv_at hl 0 rfl) ?_
      refine lv_dup hx hb dX5_takesSign_27 rfl ?_
      refine g_get (v := .int (nI p)) (T := TX5) (ci := 5) (N := 10) hx hb hown hK (gY_X5 hT) rfl (h1 0 _ rfl) 2 (by decide) (hT _ gf_X5_55) rfl dX5_takesSign_28 ?_
      refine lv_iconst (v := 1) hx hb dX5_takesSign_31 (by decide) ?_
      refine lv_iadd hx hb dX5_takesSign_32 ?_
      rw [show ((nI p) + 1 : Int32) = nI (p + 1) from (gAdd rfl rfl)]
      refine g_put (T := TX5) (ci := 5) (N := 10) (ty0 := tyX5) hx hb hown hK hS (gY_X5 hT) tyX5_ok nmX5 rfl (h1 0 _ rfl) 2 (by decide) (hT _ gf_X5_55) rfl rfl rfl (Nat.le_of_ble_eq_true rfl) (by omega) dX5_takesSign_33 (fun H3 locs c4 oq hS => ?_)
      have h1 : gSg G t (gLL G t (gR (gR f 1 E) 5 (gS6 (nI n) (nI (p + 1)) (nI c) wd rs))) H3 := gSg_set h1 0 c4 oq
      refine lv_iconst (v := 1) hx hb dX5_takesSign_36 (by decide) ?_
      rw [← hQ]
      exact g_zret hx hb hr hlk rfl hS dX5_takesSign_37 ⟨(gB_t ⟨by omega, c2⟩).symm, by rw [if_pos ⟨by omega, c2⟩]; exact h1⟩
    · refine lv_iconst (v := 0) hx hb dX5_takesSign_24 (by decide) ?_
      rw [← hQ]
      exact g_zret hx hb hr hlk rfl hS dX5_takesSign_25 ⟨(gB_f (fun z9 => c2 z9.2)).symm, by rw [if_neg (fun z9 => c2 z9.2)]; exact h1⟩

set_option maxHeartbeats 4000000 in
set_option maxRecDepth 100000 in
theorem c_X5_adds (l : Launch) (G : gW) (t : Nat) (f : gPS) (n : Nat) (hT9 : gTx (f 0) n) (E : Nat → Int32) (p c : Nat) (wd rs : Int32) (hp : p ≤ n) (hc : c + (n - p) ≤ 100) (y : Int32) (hc1 : c < 100) : gCV l yX5_adds cX5_adds 2 (gRm 0 0) G [.ref t, .int y] (fun H => gSg G t (gLL G t (gR (gR f 1 E) 5 (gS6 (nI n) (nI p) (nI c) wd rs))) H) (fun H => gSg G t (gLL G t (gR (gR f 1 (upd E c y)) 5 (gS6 (nI n) (nI p) (nI (c + 1)) wd rs))) H) (fun q => t ≤ q ∧ q < t + 6) := by
  refine g_start (by decide) (Nat.le_of_ble_eq_true rfl) ?_
  intro pp_ ee_ s mm_ aa_ below meth cc_ ls Q hQ hX hE hP hl
  obtain ⟨hx, hb, hr, hml, hown, hT, hlk, hnm⟩ := hX
  have hK := hE.2.1
  have h1 := hP
  have hS : va_S (fun q => t ≤ q ∧ q < t + 6) s.heap s.heap [] := va_S.rf
  have hl : lv_has ls 2 [(0, .ref t), (1, .int y)] := hl
  have hn9 : n ≤ 100 := hT9.1
  refine lv_aload_n hx hb dX5_adds_0 rfl (lv_at hl 0 rfl) ?_
  refine g_get (v := .int (nI c)) (T := TX5) (ci := 5) (N := 10) hx hb hown hK (gY_X5 hT) rfl (h1 0 _ rfl) 4 (by decide) (hT _ gf_X5_58) rfl dX5_adds_1 ?_
  refine lv_aload_n hx hb dX5_adds_4 rfl (lv_at hl 0 rfl) ?_
  refine g_get (v := .ref (t + 2)) (T := TX5) (ci := 5) (N := 10) hx hb hown hK (gY_X5 hT) rfl (h1 0 _ rfl) 3 (by decide) (hT _ gf_X5_15) rfl dX5_adds_5 ?_
  refine g_alen (v := 100) 0 hx hb hK (h1 2 _ rfl) rfl rfl dX5_adds_8 ?_
  refine lv_icmp_ge (tgt := 32) hx hb dX5_adds_9 (by decide) (fun c1 => ?_) (fun c1 => ?_)
  · have c1 : 100 ≤ c := (gLe (a := 100) (b := c) rfl rfl (by omega) (by omega)).mp c1
    exact absurd c1 (by omega)
  · have c1 : ¬ 100 ≤ c := fun z => c1 ((gLe (a := 100) (b := c) rfl rfl (by omega) (by omega)).mpr z)
    refine lv_aload_n hx hb dX5_adds_12 rfl (lv_at hl 0 rfl) ?_
    refine g_get (v := .ref (t + 2)) (T := TX5) (ci := 5) (N := 10) hx hb hown hK (gY_X5 hT) rfl (h1 0 _ rfl) 3 (by decide) (hT _ gf_X5_15) rfl dX5_adds_13 ?_
    refine lv_aload_n hx hb dX5_adds_16 rfl (lv_at hl 0 rfl) ?_
    refine g_get (v := .int (nI c)) (T := TX5) (ci := 5) (N := 10) hx hb hown hK (gY_X5 hT) rfl (h1 0 _ rfl) 4 (by decide) (hT _ gf_X5_58) rfl dX5_adds_17 ?_
    refine lv_iload_n hx hb dX5_adds_20 rfl (lv_at hl 1 rfl) ?_
    refine g_is (j := c) hx hb hK hS (h1 2 _ rfl) rfl (by omega) (Nat.le_of_ble_eq_true rfl) (by omega) dX5_adds_21 (fun H2 locs c3 oq hS => ?_)
    have h1 : gSg G t (gLL G t (gR (gR f 1 (upd E c y)) 5 (gS6 (nI n) (nI p) (nI c) wd rs))) H2 := gSg_set h1 2 c3 oq
    refine lv_aload_n hx hb dX5_adds_22 rfl (lv_at hl 0 rfl) ?_
    refine lv_dup hx hb dX5_adds_23 rfl ?_
    refine g_get (v := .int (nI c)) (T := TX5) (ci := 5) (N := 10) hx hb hown hK (gY_X5 hT) rfl (h1 0 _ rfl) 4 (by decide) (hT _ gf_X5_58) rfl dX5_adds_24 ?_
    refine lv_iconst (v := 1) hx hb dX5_adds_27 (by decide) ?_
    refine lv_iadd hx hb dX5_adds_28 ?_
    rw [show ((nI c) + 1 : Int32) = nI (c + 1) from (gAdd rfl rfl)]
    refine g_put (T := TX5) (ci := 5) (N := 10) (ty0 := tyX5) hx hb hown hK hS (gY_X5 hT) tyX5_ok nmX5 rfl (h1 0 _ rfl) 4 (by decide) (hT _ gf_X5_58) rfl rfl rfl (Nat.le_of_ble_eq_true rfl) (by omega) dX5_adds_29 (fun H4 locs c5 oq hS => ?_)
    have h1 : gSg G t (gLL G t (gR (gR f 1 (upd E c y)) 5 (gS6 (nI n) (nI p) (nI (c + 1)) wd rs))) H4 := gSg_set h1 0 c5 oq
    rw [← hQ]
    exact g_vret hx hb hr hlk hS dX5_adds_32 h1

set_option maxHeartbeats 4000000 in
set_option maxRecDepth 100000 in
theorem c_X5_takesNumber (l : Launch) (G : gW) (t : Nat) (f : gPS) (n : Nat) (hT9 : gTx (f 0) n) (E : Nat → Int32) (p c : Nat) (wd rs : Int32) (hp : p ≤ n) (hc : c + (n - p) ≤ 100)  : gCI l yX5_takesNumber cX5_takesNumber 3 .int (gRm 1 24) G [.ref t] (fun H => gSg G t (gLL G t (gR (gR f 1 E) 5 (gS6 (nI n) (nI p) (nI c) wd rs))) H) (fun r H => r = (if (gNum (f 0) n p).1 = true then nI (gNum (f 0) n p).2.2 else -1) ∧ gSg G t (gLL G t (gR (gR f 1 E) 5 (gS6 (nI n) (nI (gNum (f 0) n p).2.1) (nI c) wd rs))) H) (fun q => t ≤ q ∧ q < t + 6) := by
  refine g_start (by decide) (Nat.le_of_ble_eq_true rfl) ?_
  intro pp_ ee_ s mm_ aa_ below meth cc_ ls Q hQ hX hE hP hl
  obtain ⟨hx, hb, hr, hml, hown, hT, hlk, hnm⟩ := hX
  have hK := hE.2.1
  have h1 := hP
  have hS : va_S (fun q => t ≤ q ∧ q < t + 6) s.heap s.heap [] := va_S.rf
  have hl : lv_has ls 3 [(0, .ref t)] := hl
  have hn9 : n ≤ 100 := hT9.1
  refine lv_iconst (v := (-1)) hx hb dX5_takesNumber_0 (by decide) ?_
  refine lv_istore_n (lv' := [(1, .int (-1)), (0, .ref t)]) hx hb dX5_takesNumber_1 rfl hl (by decide) rfl (fun ls hl => ?_)
  refine lv_iconst (v := 0) hx hb dX5_takesNumber_2 (by decide) ?_
  refine lv_istore_n (lv' := [(2, .int 0), (1, .int (-1)), (0, .ref t)]) hx hb dX5_takesNumber_3 rfl hl (by decide) rfl (fun ls hl => ?_)
  refine lv_iload_n hx hb dX5_takesNumber_4 rfl (lv_at hl 0 rfl) ?_
  refine lv_iconst (v := 2) hx hb dX5_takesNumber_5 (by decide) ?_
  refine lv_icmp_ge (tgt := 86) hx hb dX5_takesNumber_6 (by decide) (fun c1 => ?_) (fun c1 => ?_)
  · exact absurd c1 (by decide)
  · refine lv_aload_n hx hb dX5_takesNumber_9 rfl (lv_at hl 2 rfl) ?_
    refine g_get (v := .int (nI p)) (T := TX5) (ci := 5) (N := 10) hx hb hown hK (gY_X5 hT) rfl (h1 0 _ rfl) 2 (by decide) (hT _ gf_X5_55) rfl dX5_takesNumber_10 ?_
    refine lv_aload_n hx hb dX5_takesNumber_13 rfl (lv_at hl 2 rfl) ?_
    refine g_get (v := .int (nI n)) (T := TX5) (ci := 5) (N := 10) hx hb hown hK (gY_X5 hT) rfl (h1 0 _ rfl) 1 (by decide) (hT _ gf_X5_46) rfl dX5_takesNumber_14 ?_
    refine lv_icmp_ge (tgt := 86) hx hb dX5_takesNumber_17 (by decide) (fun c2 => ?_) (fun c2 => ?_)
    · have c2 : n ≤ p := (gLe (a := n) (b := p) rfl rfl (by omega) (by omega)).mp c2
      refine lv_iload_n hx hb dX5_takesNumber_86 rfl (lv_at hl 1 rfl) ?_
      rw [← hQ]
      exact g_iret hx hb hr hlk hS dX5_takesNumber_87 (by rw [show gNum (f 0) n p = (false, p, 0) from by simp only [gNum, if_neg (fun (z9 : gDg (f 0) n p) => absurd z9.1 (by omega))]]; exact ⟨rfl, h1⟩)
    · have c2 : ¬ n ≤ p := fun z => c2 ((gLe (a := n) (b := p) rfl rfl (by omega) (by omega)).mpr z)
      refine lv_aload_n hx hb dX5_takesNumber_20 rfl (lv_at hl 2 rfl) ?_
      refine g_get (v := .ref (t + 1)) (T := TX5) (ci := 5) (N := 10) hx hb hown hK (gY_X5 hT) rfl (h1 0 _ rfl) 0 (by decide) (hT _ gf_X5_9) rfl dX5_takesNumber_21 ?_
      refine lv_aload_n hx hb dX5_takesNumber_24 rfl (lv_at hl 2 rfl) ?_
      refine g_get (v := .int (nI p)) (T := TX5) (ci := 5) (N := 10) hx hb hown hK (gY_X5 hT) rfl (h1 0 _ rfl) 2 (by decide) (hT _ gf_X5_55) rfl dX5_takesNumber_25 ?_
      refine g_ba (j := p) (v := f 0 p) hx hb hK (h1 1 _ rfl) rfl (by omega) (Nat.le_of_ble_eq_true rfl) rfl dX5_takesNumber_28 ?_
      refine lv_bipush (v := 48) hx hb dX5_takesNumber_29 (by decide) ?_
      refine lv_icmp_lt (tgt := 86) hx hb dX5_takesNumber_31 (by decide) (fun c3 => ?_) (fun c3 => ?_)
      · refine lv_iload_n hx hb dX5_takesNumber_86 rfl (lv_at hl 1 rfl) ?_
        rw [← hQ]
        exact g_iret hx hb hr hlk hS dX5_takesNumber_87 (by rw [show gNum (f 0) n p = (false, p, 0) from by simp only [gNum, if_neg (fun (z9 : gDg (f 0) n p) => absurd z9.2.1 (Int32.not_le.mpr c3))]]; exact ⟨rfl, h1⟩)
      · refine lv_aload_n hx hb dX5_takesNumber_34 rfl (lv_at hl 2 rfl) ?_
        refine g_get (v := .ref (t + 1)) (T := TX5) (ci := 5) (N := 10) hx hb hown hK (gY_X5 hT) rfl (h1 0 _ rfl) 0 (by decide) (hT _ gf_X5_9) rfl dX5_takesNumber_35 ?_
        refine lv_aload_n hx hb dX5_takesNumber_38 rfl (lv_at hl 2 rfl) ?_
        refine g_get (v := .int (nI p)) (T := TX5) (ci := 5) (N := 10) hx hb hown hK (gY_X5 hT) rfl (h1 0 _ rfl) 2 (by decide) (hT _ gf_X5_55) rfl dX5_takesNumber_39 ?_
        refine g_ba (j := p) (v := f 0 p) hx hb hK (h1 1 _ rfl) rfl (by omega) (Nat.le_of_ble_eq_true rfl) rfl dX5_takesNumber_42 ?_
        refine lv_bipush (v := 57) hx hb dX5_takesNumber_43 (by decide) ?_
        refine lv_icmp_gt (tgt := 86) hx hb dX5_takesNumber_45 (by decide) (fun c4 => ?_) (fun c4 => ?_)
        · refine lv_iload_n hx hb dX5_takesNumber_86 rfl (lv_at hl 1 rfl) ?_
          rw [← hQ]
          exact g_iret hx hb hr hlk hS dX5_takesNumber_87 (by rw [show gNum (f 0) n p = (false, p, 0) from by simp only [gNum, if_neg (fun (z9 : gDg (f 0) n p) => absurd z9.2.2 (Int32.not_le.mpr c4))]]; exact ⟨rfl, h1⟩)
        · have gc4 : gDg (f 0) n p := ⟨by omega, Int32.not_lt.mp c3, Int32.not_lt.mp c4⟩
          obtain ⟨x5, gx5, ex5, lx5⟩ := gDv_e gc4
          refine lv_iload_n hx hb dX5_takesNumber_48 rfl (lv_at hl 1 rfl) ?_
          refine lv_iconst (v := 0) hx hb dX5_takesNumber_49 (by decide) ?_
          refine va_mmax hx hb (hml.trans hl.1.symm) hown (hT _ gm_X5_112) (hT _ gt_Lib_Math_max_name) (hT _ gn_java_lang_Math) (hT _ gc_Lib_Math_max_name) (Nat.le_of_ble_eq_true rfl) (Nat.le_of_ble_eq_true rfl) (Nat.zero_le _) (Nat.zero_le _) dX5_takesNumber_50 ?_
          rw [show (if (-1 : Int32) < 0 then (0 : Int32) else (-1)) = 0 from by decide]
          refine lv_bipush (v := 10) hx hb dX5_takesNumber_53 (by decide) ?_
          refine lv_imul hx hb dX5_takesNumber_55 ?_
          rw [show (0 * 10 : Int32) = nI (0 * 10) from (gMul rfl rfl)]
          refine lv_aload_n hx hb dX5_takesNumber_56 rfl (lv_at hl 2 rfl) ?_
          refine g_get (v := .ref (t + 1)) (T := TX5) (ci := 5) (N := 10) hx hb hown hK (gY_X5 hT) rfl (h1 0 _ rfl) 0 (by decide) (hT _ gf_X5_9) rfl dX5_takesNumber_57 ?_
          refine lv_aload_n hx hb dX5_takesNumber_60 rfl (lv_at hl 2 rfl) ?_
          refine g_get (v := .int (nI p)) (T := TX5) (ci := 5) (N := 10) hx hb hown hK (gY_X5 hT) rfl (h1 0 _ rfl) 2 (by decide) (hT _ gf_X5_55) rfl dX5_takesNumber_61 ?_
          refine g_ba (j := p) (v := f 0 p) hx hb hK (h1 1 _ rfl) rfl (by omega) (Nat.le_of_ble_eq_true rfl) rfl dX5_takesNumber_64 ?_
          refine lv_iadd hx hb dX5_takesNumber_65 ?_
          rw [show ((nI (0 * 10)) + (f 0 p) : Int32) = nI ((0 * 10) + (x5 + 48)) from (gAdd rfl ex5)]
          refine lv_bipush (v := 48) hx hb dX5_takesNumber_66 (by decide) ?_
          refine lv_isub hx hb dX5_takesNumber_68 ?_
          rw [show ((nI ((0 * 10) + (x5 + 48))) - 48 : Int32) = nI (((0 * 10) + (x5 + 48)) - 48) from (gSub rfl rfl (by omega))]
          refine lv_istore_n (lv' := [(1, .int (nI (((0 * 10) + (x5 + 48)) - 48))), (2, .int 0), (0, .ref t)]) hx hb dX5_takesNumber_69 rfl hl (by decide) rfl (fun ls hl => ?_)
          refine lv_aload_n hx hb dX5_takesNumber_70 rfl (lv_at hl 2 rfl) ?_
          refine lv_dup hx hb dX5_takesNumber_71 rfl ?_
          refine g_get (v := .int (nI p)) (T := TX5) (ci := 5) (N := 10) hx hb hown hK (gY_X5 hT) rfl (h1 0 _ rfl) 2 (by decide) (hT _ gf_X5_55) rfl dX5_takesNumber_72 ?_
          refine lv_iconst (v := 1) hx hb dX5_takesNumber_75 (by decide) ?_
          refine lv_iadd hx hb dX5_takesNumber_76 ?_
          rw [show ((nI p) + 1 : Int32) = nI (p + 1) from (gAdd rfl rfl)]
          refine g_put (T := TX5) (ci := 5) (N := 10) (ty0 := tyX5) hx hb hown hK hS (gY_X5 hT) tyX5_ok nmX5 rfl (h1 0 _ rfl) 2 (by decide) (hT _ gf_X5_55) rfl rfl rfl (Nat.le_of_ble_eq_true rfl) (by omega) dX5_takesNumber_77 (fun H6 locs c7 oq hS => ?_)
          have h1 : gSg G t (gLL G t (gR (gR f 1 E) 5 (gS6 (nI n) (nI (p + 1)) (nI c) wd rs))) H6 := gSg_set h1 0 c7 oq
          refine lv_iinc (v := 0 + 1) (lv' := [(2, .int (0 + 1)), (1, .int (nI (((0 * 10) + (x5 + 48)) - 48))), (0, .ref t)]) hx hb dX5_takesNumber_80 hl (k := 1) rfl rfl (by decide) rfl (fun ls hl => ?_)
          refine lv_goto (tgt := 4) hx hb dX5_takesNumber_83 (by decide) ?_
          refine lv_iload_n hx hb dX5_takesNumber_4 rfl (lv_at hl 0 rfl) ?_
          refine lv_iconst (v := 2) hx hb dX5_takesNumber_5 (by decide) ?_
          refine lv_icmp_ge (tgt := 86) hx hb dX5_takesNumber_6 (by decide) (fun c8 => ?_) (fun c8 => ?_)
          · have c8 : 2 ≤ (0 + 1) := (gLe (a := 2) (b := 0 + 1) rfl (gAdd rfl rfl) (by omega) (by omega)).mp c8
            exact absurd c8 (by omega)
          · have c8 : ¬ 2 ≤ (0 + 1) := fun z => c8 ((gLe (a := 2) (b := 0 + 1) rfl (gAdd rfl rfl) (by omega) (by omega)).mpr z)
            refine lv_aload_n hx hb dX5_takesNumber_9 rfl (lv_at hl 2 rfl) ?_
            refine g_get (v := .int (nI (p + 1))) (T := TX5) (ci := 5) (N := 10) hx hb hown hK (gY_X5 hT) rfl (h1 0 _ rfl) 2 (by decide) (hT _ gf_X5_55) rfl dX5_takesNumber_10 ?_
            refine lv_aload_n hx hb dX5_takesNumber_13 rfl (lv_at hl 2 rfl) ?_
            refine g_get (v := .int (nI n)) (T := TX5) (ci := 5) (N := 10) hx hb hown hK (gY_X5 hT) rfl (h1 0 _ rfl) 1 (by decide) (hT _ gf_X5_46) rfl dX5_takesNumber_14 ?_
            refine lv_icmp_ge (tgt := 86) hx hb dX5_takesNumber_17 (by decide) (fun c9 => ?_) (fun c9 => ?_)
            · have c9 : n ≤ (p + 1) := (gLe (a := n) (b := p + 1) rfl rfl (by omega) (by omega)).mp c9
              refine lv_iload_n hx hb dX5_takesNumber_86 rfl (lv_at hl 1 rfl) ?_
              rw [← hQ]
              exact g_iret hx hb hr hlk hS dX5_takesNumber_87 (by rw [show gNum (f 0) n p = (true, p + 1, gDv (f 0) p) from by simp only [gNum, if_pos gc4, if_neg (fun (z9 : gDg (f 0) n (p + 1)) => absurd z9.1 (by omega))]]; exact ⟨by show nI (((0 * 10) + (x5 + 48)) - 48) = nI (gDv (f 0) p); rw [gx5]; exact congrArg nI (by omega), h1⟩)
            · have c9 : ¬ n ≤ (p + 1) := fun z => c9 ((gLe (a := n) (b := p + 1) rfl rfl (by omega) (by omega)).mpr z)
              refine lv_aload_n hx hb dX5_takesNumber_20 rfl (lv_at hl 2 rfl) ?_
              refine g_get (v := .ref (t + 1)) (T := TX5) (ci := 5) (N := 10) hx hb hown hK (gY_X5 hT) rfl (h1 0 _ rfl) 0 (by decide) (hT _ gf_X5_9) rfl dX5_takesNumber_21 ?_
              refine lv_aload_n hx hb dX5_takesNumber_24 rfl (lv_at hl 2 rfl) ?_
              refine g_get (v := .int (nI (p + 1))) (T := TX5) (ci := 5) (N := 10) hx hb hown hK (gY_X5 hT) rfl (h1 0 _ rfl) 2 (by decide) (hT _ gf_X5_55) rfl dX5_takesNumber_25 ?_
              refine g_ba (j := p + 1) (v := f 0 (p + 1)) hx hb hK (h1 1 _ rfl) rfl (by omega) (Nat.le_of_ble_eq_true rfl) rfl dX5_takesNumber_28 ?_
              refine lv_bipush (v := 48) hx hb dX5_takesNumber_29 (by decide) ?_
              refine lv_icmp_lt (tgt := 86) hx hb dX5_takesNumber_31 (by decide) (fun c10 => ?_) (fun c10 => ?_)
              · refine lv_iload_n hx hb dX5_takesNumber_86 rfl (lv_at hl 1 rfl) ?_
                rw [← hQ]
                exact g_iret hx hb hr hlk hS dX5_takesNumber_87 (by rw [show gNum (f 0) n p = (true, p + 1, gDv (f 0) p) from by simp only [gNum, if_pos gc4, if_neg (fun (z9 : gDg (f 0) n (p + 1)) => absurd z9.2.1 (Int32.not_le.mpr c10))]]; exact ⟨by show nI (((0 * 10) + (x5 + 48)) - 48) = nI (gDv (f 0) p); rw [gx5]; exact congrArg nI (by omega), h1⟩)
              · refine lv_aload_n hx hb dX5_takesNumber_34 rfl (lv_at hl 2 rfl) ?_
                refine g_get (v := .ref (t + 1)) (T := TX5) (ci := 5) (N := 10) hx hb hown hK (gY_X5 hT) rfl (h1 0 _ rfl) 0 (by decide) (hT _ gf_X5_9) rfl dX5_takesNumber_35 ?_
                refine lv_aload_n hx hb dX5_takesNumber_38 rfl (lv_at hl 2 rfl) ?_
                refine g_get (v := .int (nI (p + 1))) (T := TX5) (ci := 5) (N := 10) hx hb hown hK (gY_X5 hT) rfl (h1 0 _ rfl) 2 (by decide) (hT _ gf_X5_55) rfl dX5_takesNumber_39 ?_
                refine g_ba (j := p + 1) (v := f 0 (p + 1)) hx hb hK (h1 1 _ rfl) rfl (by omega) (Nat.le_of_ble_eq_true rfl) rfl dX5_takesNumber_42 ?_
                refine lv_bipush (v := 57) hx hb dX5_takesNumber_43 (by decide) ?_
                refine lv_icmp_gt (tgt := 86) hx hb dX5_takesNumber_45 (by decide) (fun c11 => ?_) (fun c11 => ?_)
                · refine lv_iload_n hx hb dX5_takesNumber_86 rfl (lv_at hl 1 rfl) ?_
                  rw [← hQ]
                  exact g_iret hx hb hr hlk hS dX5_takesNumber_87 (by rw [show gNum (f 0) n p = (true, p + 1, gDv (f 0) p) from by simp only [gNum, if_pos gc4, if_neg (fun (z9 : gDg (f 0) n (p + 1)) => absurd z9.2.2 (Int32.not_le.mpr c11))]]; exact ⟨by show nI (((0 * 10) + (x5 + 48)) - 48) = nI (gDv (f 0) p); rw [gx5]; exact congrArg nI (by omega), h1⟩)
                · have gc11 : gDg (f 0) n (p + 1) := ⟨by omega, Int32.not_lt.mp c10, Int32.not_lt.mp c11⟩
                  obtain ⟨x12, gx12, ex12, lx12⟩ := gDv_e gc11
                  refine lv_iload_n hx hb dX5_takesNumber_48 rfl (lv_at hl 1 rfl) ?_
                  refine lv_iconst (v := 0) hx hb dX5_takesNumber_49 (by decide) ?_
                  refine va_mmax hx hb (hml.trans hl.1.symm) hown (hT _ gm_X5_112) (hT _ gt_Lib_Math_max_name) (hT _ gn_java_lang_Math) (hT _ gc_Lib_Math_max_name) (Nat.le_of_ble_eq_true rfl) (Nat.le_of_ble_eq_true rfl) (Nat.zero_le _) (Nat.zero_le _) dX5_takesNumber_50 ?_
                  rw [if_neg (nI_pos (by omega))]
                  refine lv_bipush (v := 10) hx hb dX5_takesNumber_53 (by decide) ?_
                  refine lv_imul hx hb dX5_takesNumber_55 ?_
                  rw [show ((nI (((0 * 10) + (x5 + 48)) - 48)) * 10 : Int32) = nI ((((0 * 10) + (x5 + 48)) - 48) * 10) from (gMul rfl rfl)]
                  refine lv_aload_n hx hb dX5_takesNumber_56 rfl (lv_at hl 2 rfl) ?_
                  refine g_get (v := .ref (t + 1)) (T := TX5) (ci := 5) (N := 10) hx hb hown hK (gY_X5 hT) rfl (h1 0 _ rfl) 0 (by decide) (hT _ gf_X5_9) rfl dX5_takesNumber_57 ?_
                  refine lv_aload_n hx hb dX5_takesNumber_60 rfl (lv_at hl 2 rfl) ?_
                  refine g_get (v := .int (nI (p + 1))) (T := TX5) (ci := 5) (N := 10) hx hb hown hK (gY_X5 hT) rfl (h1 0 _ rfl) 2 (by decide) (hT _ gf_X5_55) rfl dX5_takesNumber_61 ?_
                  refine g_ba (j := p + 1) (v := f 0 (p + 1)) hx hb hK (h1 1 _ rfl) rfl (by omega) (Nat.le_of_ble_eq_true rfl) rfl dX5_takesNumber_64 ?_
                  refine lv_iadd hx hb dX5_takesNumber_65 ?_
                  rw [show ((nI ((((0 * 10) + (x5 + 48)) - 48) * 10)) + (f 0 (p + 1)) : Int32) = nI (((((0 * 10) + (x5 + 48)) - 48) * 10) + (x12 + 48)) from (gAdd rfl ex12)]
                  refine lv_bipush (v := 48) hx hb dX5_takesNumber_66 (by decide) ?_
                  refine lv_isub hx hb dX5_takesNumber_68 ?_
                  rw [show ((nI (((((0 * 10) + (x5 + 48)) - 48) * 10) + (x12 + 48))) - 48 : Int32) = nI ((((((0 * 10) + (x5 + 48)) - 48) * 10) + (x12 + 48)) - 48) from (gSub rfl rfl (by omega))]
                  refine lv_istore_n (lv' := [(1, .int (nI ((((((0 * 10) + (x5 + 48)) - 48) * 10) + (x12 + 48)) - 48))), (2, .int (0 + 1)), (0, .ref t)]) hx hb dX5_takesNumber_69 rfl hl (by decide) rfl (fun ls hl => ?_)
                  refine lv_aload_n hx hb dX5_takesNumber_70 rfl (lv_at hl 2 rfl) ?_
                  refine lv_dup hx hb dX5_takesNumber_71 rfl ?_
                  refine g_get (v := .int (nI (p + 1))) (T := TX5) (ci := 5) (N := 10) hx hb hown hK (gY_X5 hT) rfl (h1 0 _ rfl) 2 (by decide) (hT _ gf_X5_55) rfl dX5_takesNumber_72 ?_
                  refine lv_iconst (v := 1) hx hb dX5_takesNumber_75 (by decide) ?_
                  refine lv_iadd hx hb dX5_takesNumber_76 ?_
                  rw [show ((nI (p + 1)) + 1 : Int32) = nI ((p + 1) + 1) from (gAdd rfl rfl)]
                  refine g_put (T := TX5) (ci := 5) (N := 10) (ty0 := tyX5) hx hb hown hK hS (gY_X5 hT) tyX5_ok nmX5 rfl (h1 0 _ rfl) 2 (by decide) (hT _ gf_X5_55) rfl rfl rfl (Nat.le_of_ble_eq_true rfl) (by omega) dX5_takesNumber_77 (fun H13 locs c14 oq hS => ?_)
                  have h1 : gSg G t (gLL G t (gR (gR f 1 E) 5 (gS6 (nI n) (nI ((p + 1) + 1)) (nI c) wd rs))) H13 := gSg_set h1 0 c14 oq
                  refine lv_iinc (v := (0 + 1) + 1) (lv' := [(2, .int ((0 + 1) + 1)), (1, .int (nI ((((((0 * 10) + (x5 + 48)) - 48) * 10) + (x12 + 48)) - 48))), (0, .ref t)]) hx hb dX5_takesNumber_80 hl (k := 1) rfl rfl (by decide) rfl (fun ls hl => ?_)
                  refine lv_goto (tgt := 4) hx hb dX5_takesNumber_83 (by decide) ?_
                  refine lv_iload_n hx hb dX5_takesNumber_4 rfl (lv_at hl 0 rfl) ?_
                  refine lv_iconst (v := 2) hx hb dX5_takesNumber_5 (by decide) ?_
                  refine lv_icmp_ge (tgt := 86) hx hb dX5_takesNumber_6 (by decide) (fun c15 => ?_) (fun c15 => ?_)
                  · have c15 : 2 ≤ ((0 + 1) + 1) := (gLe (a := 2) (b := (0 + 1) + 1) rfl (gAdd (gAdd rfl rfl) rfl) (by omega) (by omega)).mp c15
                    refine lv_iload_n hx hb dX5_takesNumber_86 rfl (lv_at hl 1 rfl) ?_
                    rw [← hQ]
                    exact g_iret hx hb hr hlk hS dX5_takesNumber_87 (by rw [show gNum (f 0) n p = (true, p + 1 + 1, 10 * gDv (f 0) p + gDv (f 0) (p + 1)) from by simp only [gNum, if_pos gc4, if_pos gc11]]; exact ⟨by show nI ((((((0 * 10) + (x5 + 48)) - 48) * 10) + (x12 + 48)) - 48) = nI (10 * gDv (f 0) p + gDv (f 0) (p + 1)); rw [gx5, gx12]; exact congrArg nI (by omega), h1⟩)
                  · have c15 : ¬ 2 ≤ ((0 + 1) + 1) := fun z => c15 ((gLe (a := 2) (b := (0 + 1) + 1) rfl (gAdd (gAdd rfl rfl) rfl) (by omega) (by omega)).mpr z)
                    exact absurd c15 (by omega)

set_option maxHeartbeats 4000000 in
set_option maxRecDepth 100000 in
theorem c_X5_takesSigns (l : Launch) (G : gW) (t : Nat) (f : gPS) (n : Nat) (hT9 : gTx (f 0) n) (E : Nat → Int32) (p c : Nat) (wd rs : Int32) (hp : p ≤ n) (hc : c + (n - p) ≤ 100) (htG : G.2.2.2.size ≤ t) (i : Nat) (hi8 : i < 8) : gCI l yX5_takesSigns cX5_takesSigns 3 .boolean (gRm 5 106) G [.ref t, .ref (G.2.2.1 i)] (fun H => gOld G H ∧ gSg G t (gLL G t (gR (gR f 1 E) 5 (gS6 (nI n) (nI p) (nI c) wd rs))) H) (fun r H => r = gB ((gAll (f 0) n i (gLen.getD i 0) 0 p).1 = true) ∧ gSg G t (gLL G t (gR (gR f 1 E) 5 (gS6 (nI n) (nI (gAll (f 0) n i (gLen.getD i 0) 0 p).2) (nI c) wd rs))) H) (fun q => t ≤ q ∧ q < t + 6) := by
  refine g_start (by decide) (Nat.le_of_ble_eq_true rfl) ?_
  intro pp_ ee_ s mm_ aa_ below meth cc_ ls Q hQ hX hE hP hl
  obtain ⟨hx, hb, hr, hml, hown, hT, hlk, hnm⟩ := hX
  have hK := hE.2.1
  obtain ⟨hO, h1⟩ := hP
  have hS : va_S (fun q => t ≤ q ∧ q < t + 6) s.heap s.heap [] := va_S.rf
  have hl : lv_has ls 3 [(0, .ref t), (1, .ref (G.2.2.1 i))] := hl
  have hn9 : n ≤ 100 := hT9.1
  have hJ := hE.2.2.2.2.2.2.now hO
  have hL6 := gLen_le i hi8
  refine lv_iconst (v := 0) hx hb dX5_takesSigns_0 (by decide) ?_
  refine lv_istore_n (lv' := [(2, .int 0), (0, .ref t), (1, .ref (G.2.2.1 i))]) hx hb dX5_takesSigns_1 rfl hl (by decide) rfl (fun ls hl => ?_)
  have loop : ∀ (d9 k : Nat), k + d9 = (gLen.getD i 0) → ∀ (q : Nat), p ≤ q → q ≤ n → gAll (f 0) n i (gLen.getD i 0) 0 p = gAll (f 0) n i d9 k q → ∀ (H : Heap) (locs : List Loc), gSg G t (gLL G t (gR (gR f 1 E) 5 (gS6 (nI n) (nI q) (nI c) wd rs))) H → va_S (fun q => t ≤ q ∧ q < t + 6) s.heap H locs → ∀ ls, lv_has ls 3 [(0, .ref t), (1, .ref (G.2.2.1 i)), (2, .int (nI k))] → W pp_ l ee_ (gRm 5 106) s mm_ aa_ below meth cc_ H locs 0 0 Q (F0 mm_ 2 ls []) := by
    intro d9
    induction d9 with
    | zero =>
      intro k hk q hq1 hq2 hi H locs h1 hS ls hl
      have hk : k = (gLen.getD i 0) := by omega
      refine lv_iload_n hx hb dX5_takesSigns_2 rfl (lv_at hl 2 rfl) ?_
      refine lv_aload_n hx hb dX5_takesSigns_3 rfl (lv_at hl 1 rfl) ?_
      refine g_ki (g_runJ (rest := [.int (nI k)]) hx hb hml hown hE hT (c_J0_length_8abf5 l G i hi8) gM_J0_length_8abf5 gm_X5_27 gi_J0_length_8abf5 gs_RJ0_yJ0_length_8abf5_yJ0_length_8abf5 (gJ_recv hJ hi8 hO hS (fun q9 hq9 => Nat.le_trans htG hq9.1) hE) (gOld_S hO hS (fun q9 hq9 => Nat.le_trans htG hq9.1)) rfl hl.1 ⟨rfl, rfl⟩ ⟨Nat.le_of_ble_eq_true rfl, Nat.le_of_ble_eq_true rfl⟩ ⟨Nat.zero_le _, Nat.zero_le _⟩ rfl (Nat.le_of_ble_eq_true rfl) dX5_takesSigns_4) hS (fun _ h => h.elim) (fun r4 H1 locs q2 k3 hS => ?_)
      subst q2
      have h1 := gSg_free h1 k3 (by intro k hk q; simp only [List.length_cons, List.length_nil] at hk; omega)
      refine lv_icmp_ge (tgt := 30) hx hb dX5_takesSigns_7 (by decide) (fun c5 => ?_) (fun c5 => ?_)
      · have c5 : (gLen.getD i 0) ≤ k := (gLe (a := gLen.getD i 0) (b := k) rfl rfl (by omega) (by omega)).mp c5
        refine lv_iconst (v := 1) hx hb dX5_takesSigns_30 (by decide) ?_
        rw [← hQ]
        exact g_zret hx hb hr hlk rfl hS dX5_takesSigns_31 ⟨by rw [hi, gAll]; rfl, by rw [hi, gAll]; exact h1⟩
      · have c5 : ¬ (gLen.getD i 0) ≤ k := fun z => c5 ((gLe (a := gLen.getD i 0) (b := k) rfl rfl (by omega) (by omega)).mpr z)
        exact absurd c5 (by omega)
    | succ d9 ih =>
      intro k hk q hq1 hq2 hi H locs h1 hS ls hl
      refine lv_iload_n hx hb dX5_takesSigns_2 rfl (lv_at hl 2 rfl) ?_
      refine lv_aload_n hx hb dX5_takesSigns_3 rfl (lv_at hl 1 rfl) ?_
      refine g_ki (g_runJ (rest := [.int (nI k)]) hx hb hml hown hE hT (c_J0_length_8abf5 l G i hi8) gM_J0_length_8abf5 gm_X5_27 gi_J0_length_8abf5 gs_RJ0_yJ0_length_8abf5_yJ0_length_8abf5 (gJ_recv hJ hi8 hO hS (fun q9 hq9 => Nat.le_trans htG hq9.1) hE) (gOld_S hO hS (fun q9 hq9 => Nat.le_trans htG hq9.1)) rfl hl.1 ⟨rfl, rfl⟩ ⟨Nat.le_of_ble_eq_true rfl, Nat.le_of_ble_eq_true rfl⟩ ⟨Nat.zero_le _, Nat.zero_le _⟩ rfl (Nat.le_of_ble_eq_true rfl) dX5_takesSigns_4) hS (fun _ h => h.elim) (fun r9 H6 locs q7 k8 hS => ?_)
      subst q7
      have h1 := gSg_free h1 k8 (by intro k hk q; simp only [List.length_cons, List.length_nil] at hk; omega)
      refine lv_icmp_ge (tgt := 30) hx hb dX5_takesSigns_7 (by decide) (fun c10 => ?_) (fun c10 => ?_)
      · have c10 : (gLen.getD i 0) ≤ k := (gLe (a := gLen.getD i 0) (b := k) rfl rfl (by omega) (by omega)).mp c10
        exact absurd c10 (by omega)
      · have c10 : ¬ (gLen.getD i 0) ≤ k := fun z => c10 ((gLe (a := gLen.getD i 0) (b := k) rfl rfl (by omega) (by omega)).mpr z)
        refine lv_aload_n hx hb dX5_takesSigns_10 rfl (lv_at hl 0 rfl) ?_
        refine lv_aload_n hx hb dX5_takesSigns_11 rfl (lv_at hl 1 rfl) ?_
        refine lv_iload_n hx hb dX5_takesSigns_12 rfl (lv_at hl 2 rfl) ?_
        refine g_ki (g_runJ (rest := [.ref t]) hx hb hml hown hE hT (c_J0_charAt_5068e l G i hi8 k (by omega)) gM_J0_charAt_5068e gm_X5_108 gi_J0_charAt_5068e gs_RJ0_yJ0_charAt_5068e_yJ0_charAt_5068e (gJ_recv hJ hi8 hO hS (fun q9 hq9 => Nat.le_trans htG hq9.1) hE) (gOld_S hO hS (fun q9 hq9 => Nat.le_trans htG hq9.1)) rfl hl.1 ⟨rfl, rfl⟩ ⟨Nat.le_of_ble_eq_true rfl, Nat.le_of_ble_eq_true rfl⟩ ⟨Nat.zero_le _, Nat.zero_le _⟩ rfl (Nat.le_of_ble_eq_true rfl) dX5_takesSigns_13) hS (fun _ h => h.elim) (fun r14 H11 locs q12 k13 hS => ?_)
        subst q12
        have h1 := gSg_free h1 k13 (by intro k hk q; simp only [List.length_cons, List.length_nil] at hk; omega)
        refine g_ki (g_runV (T := TX5) (ci := 5) (N := 10) (rest := []) hx hb hml hown hE hT (c_X5_takesSign l G t f n hT9 E q c wd rs (by omega) (by omega) (gChr i k)) gM_X5_takesSign gm_X5_68 gi_X5_takesSign gs_RX5_yX5_takesSign_yX5_takesSign rfl (h1 0 _ rfl) h1 rfl hl.1 ⟨rfl, rfl⟩ ⟨Nat.le_of_ble_eq_true rfl, Nat.le_of_ble_eq_true rfl⟩ ⟨Nat.zero_le _, Nat.zero_le _⟩ rfl (Nat.le_of_ble_eq_true rfl) dX5_takesSigns_16) hS (by intro q hq; omega) (fun r18 H15 locs q16 k17 hS => ?_)
        obtain ⟨e9, h1⟩ := q16
        rw [e9]
        refine lv_if_ne (tgt := 24) hx hb dX5_takesSigns_19 (by decide) (fun c19 => ?_) (fun c19 => ?_)
        · have c19 : q < n ∧ f 0 q = gChr i k := gB_1.mp c19
          rw [if_pos c19] at h1
          have ltc19 := c19.1
          refine lv_iinc (v := nI (k + 1)) (lv' := [(2, .int (nI (k + 1))), (0, .ref t), (1, .ref (G.2.2.1 i))]) hx hb dX5_takesSigns_24 hl (k := 2) rfl (gAdd rfl (show Int32.ofInt 1 = nI 1 from rfl)) (by decide) rfl (fun ls hl => ?_)
          refine lv_goto (tgt := 2) hx hb dX5_takesSigns_27 (by decide) ?_
          exact ih (k + 1) (by omega) (q + 1) (by omega) (by omega) (by rw [hi, gAll, if_pos c19]) _ _ h1 hS _ (by have hl := lv_sub hl [1, 2, 0] rfl; exact hl)
        · have c19 : ¬ (q < n ∧ f 0 q = gChr i k) := gB_0.mp c19
          rw [if_neg c19] at h1
          refine lv_iconst (v := 0) hx hb dX5_takesSigns_22 (by decide) ?_
          rw [← hQ]
          exact g_zret hx hb hr hlk rfl hS dX5_takesSigns_23 ⟨by rw [hi, gAll, if_neg c19]; rfl, by rw [hi, gAll, if_neg c19]; exact h1⟩
  exact loop ((gLen.getD i 0) - 0) 0 (by first | omega | simp) p (Nat.le_refl _) hp rfl _ _ h1 hS _ (lv_sub hl [1, 2, 0] rfl)

set_option maxHeartbeats 4000000 in
set_option maxRecDepth 100000 in
theorem c_X5_takesOneOf (l : Launch) (G : gW) (t : Nat) (f : gPS) (n : Nat) (hT9 : gTx (f 0) n) (E : Nat → Int32) (p c : Nat) (wd rs : Int32) (hp : p ≤ n) (hc : c + (n - p) ≤ 100) (htG : G.2.2.2.size ≤ t) (i : Nat) (hi8 : i < 8) (hi2 : i < 2) : gCI l yX5_takesOneOf cX5_takesOneOf 3 .int (gRm 5 106) G [.ref t, .ref (G.2.2.1 i)] (fun H => gOld G H ∧ gSg G t (gLL G t (gR (gR f 1 E) 5 (gS6 (nI n) (nI p) (nI c) wd rs))) H) (fun r H => r = gOne (f 0) n i p ∧ gSg G t (gLL G t (gR (gR f 1 E) 5 (gS6 (nI n) (nI (if gOne (f 0) n i p < 0 then p else p + 1)) (nI c) wd rs))) H) (fun q => t ≤ q ∧ q < t + 6) := by
  refine g_start (by decide) (Nat.le_of_ble_eq_true rfl) ?_
  intro pp_ ee_ s mm_ aa_ below meth cc_ ls Q hQ hX hE hP hl
  obtain ⟨hx, hb, hr, hml, hown, hT, hlk, hnm⟩ := hX
  have hK := hE.2.1
  obtain ⟨hO, h1⟩ := hP
  have hS : va_S (fun q => t ≤ q ∧ q < t + 6) s.heap s.heap [] := va_S.rf
  have hl : lv_has ls 3 [(0, .ref t), (1, .ref (G.2.2.1 i))] := hl
  have hn9 : n ≤ 100 := hT9.1
  have hJ := hE.2.2.2.2.2.2.now hO
  have hL6 := gLen_le i hi8
  rw [← gCix_e hT9 hi2] at hQ
  refine lv_iconst (v := 0) hx hb dX5_takesOneOf_0 (by decide) ?_
  refine lv_istore_n (lv' := [(2, .int 0), (0, .ref t), (1, .ref (G.2.2.1 i))]) hx hb dX5_takesOneOf_1 rfl hl (by decide) rfl (fun ls hl => ?_)
  have loop : ∀ (d9 k : Nat), k + d9 = (gLen.getD i 0) → gCix (f 0) n i p 0 (gLen.getD i 0) = gCix (f 0) n i p k d9 → ∀ (H : Heap) (locs : List Loc), gSg G t (gLL G t (gR (gR f 1 E) 5 (gS6 (nI n) (nI p) (nI c) wd rs))) H → va_S (fun q => t ≤ q ∧ q < t + 6) s.heap H locs → ∀ ls, lv_has ls 3 [(0, .ref t), (1, .ref (G.2.2.1 i)), (2, .int (nI k))] → W pp_ l ee_ (gRm 5 106) s mm_ aa_ below meth cc_ H locs 0 0 Q (F0 mm_ 2 ls []) := by
    intro d9
    induction d9 with
    | zero =>
      intro k hk  hi H locs h1 hS ls hl
      have hk : k = (gLen.getD i 0) := by omega
      refine lv_iload_n hx hb dX5_takesOneOf_2 rfl (lv_at hl 2 rfl) ?_
      refine lv_aload_n hx hb dX5_takesOneOf_3 rfl (lv_at hl 1 rfl) ?_
      refine g_ki (g_runJ (rest := [.int (nI k)]) hx hb hml hown hE hT (c_J0_length_8abf5 l G i hi8) gM_J0_length_8abf5 gm_X5_27 gi_J0_length_8abf5 gs_RJ0_yJ0_length_8abf5_yJ0_length_8abf5 (gJ_recv hJ hi8 hO hS (fun q9 hq9 => Nat.le_trans htG hq9.1) hE) (gOld_S hO hS (fun q9 hq9 => Nat.le_trans htG hq9.1)) rfl hl.1 ⟨rfl, rfl⟩ ⟨Nat.le_of_ble_eq_true rfl, Nat.le_of_ble_eq_true rfl⟩ ⟨Nat.zero_le _, Nat.zero_le _⟩ rfl (Nat.le_of_ble_eq_true rfl) dX5_takesOneOf_4) hS (fun _ h => h.elim) (fun r4 H1 locs q2 k3 hS => ?_)
      subst q2
      have h1 := gSg_free h1 k3 (by intro k hk q; simp only [List.length_cons, List.length_nil] at hk; omega)
      refine lv_icmp_ge (tgt := 30) hx hb dX5_takesOneOf_7 (by decide) (fun c5 => ?_) (fun c5 => ?_)
      · have c5 : (gLen.getD i 0) ≤ k := (gLe (a := gLen.getD i 0) (b := k) rfl rfl (by omega) (by omega)).mp c5
        refine lv_iconst (v := (-1)) hx hb dX5_takesOneOf_30 (by decide) ?_
        rw [← hQ]
        exact g_iret hx hb hr hlk hS dX5_takesOneOf_31 ⟨by rw [hi, gCix], by rw [hi, gCix, if_pos (by decide)]; exact h1⟩
      · have c5 : ¬ (gLen.getD i 0) ≤ k := fun z => c5 ((gLe (a := gLen.getD i 0) (b := k) rfl rfl (by omega) (by omega)).mpr z)
        exact absurd c5 (by omega)
    | succ d9 ih =>
      intro k hk  hi H locs h1 hS ls hl
      refine lv_iload_n hx hb dX5_takesOneOf_2 rfl (lv_at hl 2 rfl) ?_
      refine lv_aload_n hx hb dX5_takesOneOf_3 rfl (lv_at hl 1 rfl) ?_
      refine g_ki (g_runJ (rest := [.int (nI k)]) hx hb hml hown hE hT (c_J0_length_8abf5 l G i hi8) gM_J0_length_8abf5 gm_X5_27 gi_J0_length_8abf5 gs_RJ0_yJ0_length_8abf5_yJ0_length_8abf5 (gJ_recv hJ hi8 hO hS (fun q9 hq9 => Nat.le_trans htG hq9.1) hE) (gOld_S hO hS (fun q9 hq9 => Nat.le_trans htG hq9.1)) rfl hl.1 ⟨rfl, rfl⟩ ⟨Nat.le_of_ble_eq_true rfl, Nat.le_of_ble_eq_true rfl⟩ ⟨Nat.zero_le _, Nat.zero_le _⟩ rfl (Nat.le_of_ble_eq_true rfl) dX5_takesOneOf_4) hS (fun _ h => h.elim) (fun r9 H6 locs q7 k8 hS => ?_)
      subst q7
      have h1 := gSg_free h1 k8 (by intro k hk q; simp only [List.length_cons, List.length_nil] at hk; omega)
      refine lv_icmp_ge (tgt := 30) hx hb dX5_takesOneOf_7 (by decide) (fun c10 => ?_) (fun c10 => ?_)
      · have c10 : (gLen.getD i 0) ≤ k := (gLe (a := gLen.getD i 0) (b := k) rfl rfl (by omega) (by omega)).mp c10
        exact absurd c10 (by omega)
      · have c10 : ¬ (gLen.getD i 0) ≤ k := fun z => c10 ((gLe (a := gLen.getD i 0) (b := k) rfl rfl (by omega) (by omega)).mpr z)
        refine lv_aload_n hx hb dX5_takesOneOf_10 rfl (lv_at hl 0 rfl) ?_
        refine lv_aload_n hx hb dX5_takesOneOf_11 rfl (lv_at hl 1 rfl) ?_
        refine lv_iload_n hx hb dX5_takesOneOf_12 rfl (lv_at hl 2 rfl) ?_
        refine g_ki (g_runJ (rest := [.ref t]) hx hb hml hown hE hT (c_J0_charAt_5068e l G i hi8 k (by omega)) gM_J0_charAt_5068e gm_X5_108 gi_J0_charAt_5068e gs_RJ0_yJ0_charAt_5068e_yJ0_charAt_5068e (gJ_recv hJ hi8 hO hS (fun q9 hq9 => Nat.le_trans htG hq9.1) hE) (gOld_S hO hS (fun q9 hq9 => Nat.le_trans htG hq9.1)) rfl hl.1 ⟨rfl, rfl⟩ ⟨Nat.le_of_ble_eq_true rfl, Nat.le_of_ble_eq_true rfl⟩ ⟨Nat.zero_le _, Nat.zero_le _⟩ rfl (Nat.le_of_ble_eq_true rfl) dX5_takesOneOf_13) hS (fun _ h => h.elim) (fun r14 H11 locs q12 k13 hS => ?_)
        subst q12
        have h1 := gSg_free h1 k13 (by intro k hk q; simp only [List.length_cons, List.length_nil] at hk; omega)
        refine g_ki (g_runV (T := TX5) (ci := 5) (N := 10) (rest := []) hx hb hml hown hE hT (c_X5_takesSign l G t f n hT9 E p c wd rs (by omega) (by omega) (gChr i k)) gM_X5_takesSign gm_X5_68 gi_X5_takesSign gs_RX5_yX5_takesSign_yX5_takesSign rfl (h1 0 _ rfl) h1 rfl hl.1 ⟨rfl, rfl⟩ ⟨Nat.le_of_ble_eq_true rfl, Nat.le_of_ble_eq_true rfl⟩ ⟨Nat.zero_le _, Nat.zero_le _⟩ rfl (Nat.le_of_ble_eq_true rfl) dX5_takesOneOf_16) hS (by intro q hq; omega) (fun r18 H15 locs q16 k17 hS => ?_)
        obtain ⟨e9, h1⟩ := q16
        rw [e9]
        refine lv_if_eq (tgt := 24) hx hb dX5_takesOneOf_19 (by decide) (fun c19 => ?_) (fun c19 => ?_)
        · have c19 : ¬ (p < n ∧ f 0 p = gChr i k) := gB_0.mp c19
          rw [if_neg c19] at h1
          refine lv_iinc (v := nI (k + 1)) (lv' := [(2, .int (nI (k + 1))), (0, .ref t), (1, .ref (G.2.2.1 i))]) hx hb dX5_takesOneOf_24 hl (k := 2) rfl (gAdd rfl (show Int32.ofInt 1 = nI 1 from rfl)) (by decide) rfl (fun ls hl => ?_)
          refine lv_goto (tgt := 2) hx hb dX5_takesOneOf_27 (by decide) ?_
          exact ih (k + 1) (by omega)  (by rw [hi, gCix, if_neg c19]) _ _ h1 hS _ (by have hl := lv_sub hl [1, 2, 0] rfl; exact hl)
        · have c19 : p < n ∧ f 0 p = gChr i k := gB_1.mp c19
          rw [if_pos c19] at h1
          have ltc19 := c19.1
          refine lv_iload_n hx hb dX5_takesOneOf_22 rfl (lv_at hl 2 rfl) ?_
          rw [← hQ]
          exact g_iret hx hb hr hlk hS dX5_takesOneOf_23 ⟨by rw [hi, gCix, if_pos c19], by rw [hi, gCix, if_pos c19, if_neg (nI_pos (by omega))]; exact h1⟩
  exact loop ((gLen.getD i 0) - 0) 0 (by first | omega | simp) rfl _ _ h1 hS _ (lv_sub hl [1, 2, 0] rfl)
