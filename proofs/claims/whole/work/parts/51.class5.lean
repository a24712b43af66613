set_option maxHeartbeats 4000000 in
set_option maxRecDepth 100000 in
theorem c_X5_isTrue (l : Launch) (G : gW) (t : Nat) (f : gPS) (q : Nat) (hq : q < 1800) : gCI l yX5_isTrue cX5_isTrue 4 .boolean (gRm 0 0) G [.ref t, .int (nI q)] (fun H => gSg G t (gLL G t f) H) (fun r H => r = gB (gTst (f 4) q = true)) (fun _ => False) := by
  refine g_start (by decide) (Nat.le_of_ble_eq_true rfl) ?_
  intro pp_ ee_ s mm_ aa_ below meth cc_ ls Q hQ hX hE hP hl
  obtain ⟨hx, hb, hr, hml, hown, hT, hlk, hnm⟩ := hX
  have hK := hE.2.1
  have h1 := hP
  have hS : va_S (fun _ => False) s.heap s.heap [] := va_S.rf
  have hl : lv_has ls 4 [(0, .ref t), (1, .int (nI q))] := hl
  refine lv_aload_n hx hb dX5_isTrue_0 rfl (lv_at hl 0 rfl) ?_
  refine g_get (v := .ref (t + 5)) (T := TX5) (ci := 5) (N := 10) hx hb hown hK (gY_X5 hT) rfl (h1 0 _ rfl) 8 (by decide) (hT _ gf_X5_33) rfl dX5_isTrue_1 ?_
  refine lv_iload_n hx hb dX5_isTrue_4 rfl (lv_at hl 1 rfl) ?_
  refine lv_sipush (v := 300) hx hb dX5_isTrue_5 (by decide) ?_
  refine lv_idiv hx hb dX5_isTrue_8 (by decide) ?_
  rw [show ((nI q) / 300 : Int32) = nI (q / 300) from (gDiv rfl rfl (by omega) (by omega) (by omega))]
  refine g_ia (j := q / 300) (v := f 4 (q / 300)) hx hb hK (h1 5 _ rfl) rfl (by omega) (Nat.le_of_ble_eq_true rfl) rfl dX5_isTrue_9 ?_
  refine lv_istore_n (lv' := [(2, .int (f 4 (q / 300))), (0, .ref t), (1, .int (nI q))]) hx hb dX5_isTrue_10 rfl hl (by decide) rfl (fun ls hl => ?_)
  refine lv_iload_n hx hb dX5_isTrue_11 rfl (lv_at hl 2 rfl) ?_
  refine lv_bipush (v := 100) hx hb dX5_isTrue_12 (by decide) ?_
  refine lv_irem hx hb dX5_isTrue_14 (by decide) ?_
  rw [show ((nI q) - (nI q) / 100 * 100 : Int32) = nI (q % 100) from (gRem rfl rfl (by omega) (by omega) (by omega))]
  refine lv_istore_n (lv' := [(3, .int (nI (q % 100))), (2, .int (f 4 (q / 300))), (0, .ref t), (1, .int (nI q))]) hx hb dX5_isTrue_15 rfl hl (by decide) rfl (fun ls hl => ?_)
  refine lv_iload_n hx hb dX5_isTrue_16 rfl (lv_at hl 3 rfl) ?_
  refine lv_bipush (v := 100) hx hb dX5_isTrue_17 (by decide) ?_
  refine lv_idiv hx hb dX5_isTrue_19 (by decide) ?_
  rw [show ((nI q) / 100 : Int32) = nI (q / 100) from (gDiv rfl rfl (by omega) (by omega) (by omega))]
  refine lv_iconst (v := 3) hx hb dX5_isTrue_20 (by decide) ?_
  refine lv_irem hx hb dX5_isTrue_21 (by decide) ?_
  rw [show ((nI (q / 100)) - (nI (q / 100)) / 3 * 3 : Int32) = nI ((q / 100) % 3) from (gRem rfl rfl (by omega) (by omega) (by omega))]
  have lq : q / 100 % 3 < 3 := Nat.mod_lt _ (by decide)
  by_cases e0 : q / 100 % 3 = 0
  · rw [e0]
    refine lv_lookup (off := 26) (tgt := 48) hx hb dX5_isTrue_22 (by decide) (by decide) (by decide) ?_
    refine lv_iload_n hx hb dX5_isTrue_48 rfl (lv_at hl 1 rfl) ?_
    refine lv_iload_n hx hb dX5_isTrue_49 rfl (lv_at hl 0 rfl) ?_
    refine lv_icmp_ge (tgt := 57) hx hb dX5_isTrue_50 (by decide) (fun c1 => ?_) (fun c1 => ?_)
    · refine lv_iconst (v := 0) hx hb dX5_isTrue_57 (by decide) ?_
      rw [← hQ]
      exact g_zret hx hb hr hlk rfl hS dX5_isTrue_58 (by rw [show gTst (f 4) q = false from by rw [gTst, if_pos e0]; exact decide_eq_false (Int32.not_lt.mpr c1)]; rfl)
    · refine lv_iconst (v := 1) hx hb dX5_isTrue_53 (by decide) ?_
      refine lv_goto (tgt := 58) hx hb dX5_isTrue_54 (by decide) ?_
      rw [← hQ]
      exact g_zret hx hb hr hlk rfl hS dX5_isTrue_58 (by rw [show gTst (f 4) q = true from by rw [gTst, if_pos e0]; exact decide_eq_true (Int32.not_le.mp c1)]; rfl)
  · skip
    by_cases e1 : q / 100 % 3 = 1
    · rw [e1]
      refine lv_lookup (off := 37) (tgt := 59) hx hb dX5_isTrue_22 (by decide) (by decide) (by decide) ?_
      refine lv_iload_n hx hb dX5_isTrue_59 rfl (lv_at hl 1 rfl) ?_
      refine lv_iload_n hx hb dX5_isTrue_60 rfl (lv_at hl 0 rfl) ?_
      refine lv_icmp_ne (tgt := 68) hx hb dX5_isTrue_61 (by decide) (fun c2 => ?_) (fun c2 => ?_)
      · refine lv_iconst (v := 0) hx hb dX5_isTrue_68 (by decide) ?_
        rw [← hQ]
        exact g_zret hx hb hr hlk rfl hS dX5_isTrue_69 (by rw [show gTst (f 4) q = false from by rw [gTst, if_neg e0, if_pos e1]; exact decide_eq_false c2]; rfl)
      · refine lv_iconst (v := 1) hx hb dX5_isTrue_64 (by decide) ?_
        refine lv_goto (tgt := 69) hx hb dX5_isTrue_65 (by decide) ?_
        rw [← hQ]
        exact g_zret hx hb hr hlk rfl hS dX5_isTrue_69 (by rw [show gTst (f 4) q = true from by rw [gTst, if_neg e0, if_pos e1]; exact decide_eq_true c2]; rfl)
    · skip
      have e2 : q / 100 % 3 = 2 := by omega
      rw [e2]
      refine lv_lookup (off := 48) (tgt := 70) hx hb dX5_isTrue_22 (by decide) (by decide) (by decide) ?_
      refine lv_iload_n hx hb dX5_isTrue_70 rfl (lv_at hl 1 rfl) ?_
      refine lv_iload_n hx hb dX5_isTrue_71 rfl (lv_at hl 0 rfl) ?_
      refine lv_icmp_le (tgt := 79) hx hb dX5_isTrue_72 (by decide) (fun c3 => ?_) (fun c3 => ?_)
      · refine lv_iconst (v := 0) hx hb dX5_isTrue_79 (by decide) ?_
        rw [← hQ]
        exact g_zret hx hb hr hlk rfl hS dX5_isTrue_80 (by rw [show gTst (f 4) q = false from by rw [gTst, if_neg e0, if_neg e1]; exact decide_eq_false (Int32.not_lt.mpr c3)]; rfl)
      · refine lv_iconst (v := 1) hx hb dX5_isTrue_75 (by decide) ?_
        refine lv_goto (tgt := 80) hx hb dX5_isTrue_76 (by decide) ?_
        rw [← hQ]
        exact g_zret hx hb hr hlk rfl hS dX5_isTrue_80 (by rw [show gTst (f 4) q = true from by rw [gTst, if_neg e0, if_neg e1]; exact decide_eq_true (Int32.not_le.mp c3)]; rfl)

set_option maxHeartbeats 4000000 in
set_option maxRecDepth 100000 in
theorem c_X5_takesRest (l : Launch) (G : gW) (t : Nat) (f : gPS) (n : Nat) (hT9 : gTx (f 0) n) (E : Nat → Int32) (p c : Nat) (wd rs : Int32) (hp : p ≤ n) (hc : c + (n - p) ≤ 100)  : gCI l yX5_takesRest cX5_takesRest 2 .boolean (gRm 2 46) G [.ref t] (fun H => gSg G t (gLL G t (gR (gR f 1 E) 5 (gS6 (nI n) (nI p) (nI c) wd rs))) H) (fun r H => r = gB ((gNum (f 0) n p).1 = true) ∧ gSg G t (gLL G t (gR (gR f 1 E) 5 (gS6 (nI n) (nI (gNum (f 0) n p).2.1) (nI c) wd (if (gNum (f 0) n p).1 = true then nI (gNum (f 0) n p).2.2 else rs)))) H) (fun q => t ≤ q ∧ q < t + 6) := by
  refine g_start (by decide) (Nat.le_of_ble_eq_true rfl) ?_
  intro pp_ ee_ s mm_ aa_ below meth cc_ ls Q hQ hX hE hP hl
  obtain ⟨hx, hb, hr, hml, hown, hT, hlk, hnm⟩ := hX
  have hK := hE.2.1
  have h1 := hP
  have hS : va_S (fun q => t ≤ q ∧ q < t + 6) s.heap s.heap [] := va_S.rf
  have hl : lv_has ls 2 [(0, .ref t)] := hl
  have hn9 : n ≤ 100 := hT9.1
  refine lv_aload_n hx hb dX5_takesRest_0 rfl (lv_at hl 0 rfl) ?_
  have vN := gNum_v (t := f 0) (n := n) (p := p)
  refine g_ki (g_runV (T := TX5) (ci := 5) (N := 10) (rest := []) hx hb hml hown hE hT (c_X5_takesNumber l G t f n hT9 E p c wd rs (by omega) (by omega)) gM_X5_takesNumber gm_X5_85 gi_X5_takesNumber gs_RX5_yX5_takesNumber_yX5_takesNumber rfl (h1 0 _ rfl) h1 rfl hl.1 ⟨rfl, rfl⟩ ⟨Nat.le_of_ble_eq_true rfl, Nat.le_of_ble_eq_true rfl⟩ ⟨Nat.zero_le _, Nat.zero_le _⟩ rfl (Nat.le_of_ble_eq_true rfl) dX5_takesRest_1) hS (by intro q hq; omega) (fun r4 H1 locs q2 k3 hS => ?_)
  obtain ⟨e9, h1⟩ := q2
  rw [e9]
  by_cases hN : (gNum (f 0) n p).1 = true
  · rw [if_pos hN]
    refine lv_istore_n (lv' := [(1, .int (nI ((gNum (f 0) n p).2.2))), (0, .ref t)]) hx hb dX5_takesRest_4 rfl hl (by decide) rfl (fun ls hl => ?_)
    refine lv_iload_n hx hb dX5_takesRest_5 rfl (lv_at hl 0 rfl) ?_
    refine lv_if_ge (tgt := 11) hx hb dX5_takesRest_6 (by decide) (fun c5 => ?_) (fun c5 => ?_)
    · have c5 : 0 ≤ ((gNum (f 0) n p).2.2) := (gLe (a := 0) (b := (gNum (f 0) n p).2.2) rfl rfl (by omega) (by omega)).mp c5
      refine lv_aload_n hx hb dX5_takesRest_11 rfl (lv_at hl 1 rfl) ?_
      refine lv_iload_n hx hb dX5_takesRest_12 rfl (lv_at hl 0 rfl) ?_
      refine g_put (T := TX5) (ci := 5) (N := 10) (ty0 := tyX5) hx hb hown hK hS (gY_X5 hT) tyX5_ok nmX5 rfl (h1 0 _ rfl) 9 (by decide) (hT _ gf_X5_36) rfl rfl rfl (Nat.le_of_ble_eq_true rfl) (by omega) dX5_takesRest_13 (fun H6 locs c7 oq hS => ?_)
      have h1 : gSg G t (gLL G t (gR (gR f 1 E) 5 (gS6 (nI n) (nI (gNum (f 0) n p).2.1) (nI c) wd (nI ((gNum (f 0) n p).2.2))))) H6 := gSg_set h1 0 c7 oq
      refine lv_iconst (v := 1) hx hb dX5_takesRest_16 (by decide) ?_
      rw [← hQ]
      exact g_zret hx hb hr hlk rfl hS dX5_takesRest_17 ⟨(gB_t hN).symm, by rw [if_pos hN]; exact h1⟩
    · have c5 : ¬ 0 ≤ ((gNum (f 0) n p).2.2) := fun z => c5 ((gLe (a := 0) (b := (gNum (f 0) n p).2.2) rfl rfl (by omega) (by omega)).mpr z)
      exact absurd c5 (by omega)
  · rw [if_neg hN]
    refine lv_istore_n (lv' := [(1, .int (-1)), (0, .ref t)]) hx hb dX5_takesRest_4 rfl hl (by decide) rfl (fun ls hl => ?_)
    refine lv_iload_n hx hb dX5_takesRest_5 rfl (lv_at hl 0 rfl) ?_
    refine lv_if_ge (tgt := 11) hx hb dX5_takesRest_6 (by decide) (fun c8 => ?_) (fun c8 => ?_)
    · exact absurd c8 (by decide)
    · refine lv_iconst (v := 0) hx hb dX5_takesRest_9 (by decide) ?_
      rw [← hQ]
      exact g_zret hx hb hr hlk rfl hS dX5_takesRest_10 ⟨(gB_f hN).symm, by rw [if_neg hN]; exact h1⟩
