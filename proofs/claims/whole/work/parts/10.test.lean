set_option maxHeartbeats 4000000 in
set_option maxRecDepth 100000 in
theorem c_X11_isUpTo (l : Launch) (G : gW) (n k : Int32) : gCI l yX11_isUpTo cX11_isUpTo 2 .boolean (gRm 0 0) G [.int n, .int k] (fun H => True) (fun r H => r = gB (0 ≤ n ∧ n ≤ k)) (fun _ => False) := by
  refine g_start (by decide) (Nat.le_of_ble_eq_true rfl) ?_
  intro p e s m args below meth c ls Q hQ hX hE hP hl
  obtain ⟨hx, hb, hr, hml, hown, hT, hlk, hnm⟩ := hX
  have hK := hE.2.1
  have hS : va_S (fun _ => False) s.heap s.heap [] := va_S.rf
  have hl : lv_has ls 2 [(0, .int n), (1, .int k)] := hl
  refine lv_iload_n hx hb dX11_isUpTo_0 rfl (lv_at hl 0 rfl) ?_
  refine lv_if_lt (tgt := 13) hx hb dX11_isUpTo_1 (by decide) (fun c1 => ?_) (fun c1 => ?_)
  · refine lv_iconst (v := 0) hx hb dX11_isUpTo_13 (by decide) ?_
    rw [← hQ]
    exact g_zret hx hb hr hlk rfl hS dX11_isUpTo_14 (by rw [gB_f (by simp only [Int32.lt_iff_toInt_lt, Int32.le_iff_toInt_le, gz_m1, gz_0, gz_1, gz_2, gz_3, gz_4, gz_5, gz_6, gz_7, gz_8, gz_9, gz_10, gz_11, gz_12, gz_20, gz_30, gz_50, gz_57, gz_58, gz_59, gz_60, gz_61, gz_71, gz_99, gz_100, gz_110, gz_127, gz_255, gz_4095, gz_4096, gz_9999] at c1 ⊢; omega)])
  · refine lv_iload_n hx hb dX11_isUpTo_4 rfl (lv_at hl 0 rfl) ?_
    refine lv_iload_n hx hb dX11_isUpTo_5 rfl (lv_at hl 1 rfl) ?_
    refine lv_icmp_gt (tgt := 13) hx hb dX11_isUpTo_6 (by decide) (fun c2 => ?_) (fun c2 => ?_)
    · refine lv_iconst (v := 0) hx hb dX11_isUpTo_13 (by decide) ?_
      rw [← hQ]
      exact g_zret hx hb hr hlk rfl hS dX11_isUpTo_14 (by rw [gB_f (by simp only [Int32.lt_iff_toInt_lt, Int32.le_iff_toInt_le, gz_m1, gz_0, gz_1, gz_2, gz_3, gz_4, gz_5, gz_6, gz_7, gz_8, gz_9, gz_10, gz_11, gz_12, gz_20, gz_30, gz_50, gz_57, gz_58, gz_59, gz_60, gz_61, gz_71, gz_99, gz_100, gz_110, gz_127, gz_255, gz_4095, gz_4096, gz_9999] at c1 c2 ⊢; omega)])
    · refine lv_iconst (v := 1) hx hb dX11_isUpTo_9 (by decide) ?_
      refine lv_goto (tgt := 14) hx hb dX11_isUpTo_10 (by decide) ?_
      rw [← hQ]
      exact g_zret hx hb hr hlk rfl hS dX11_isUpTo_14 (by rw [gB_t (by simp only [Int32.lt_iff_toInt_lt, Int32.le_iff_toInt_le, gz_m1, gz_0, gz_1, gz_2, gz_3, gz_4, gz_5, gz_6, gz_7, gz_8, gz_9, gz_10, gz_11, gz_12, gz_20, gz_30, gz_50, gz_57, gz_58, gz_59, gz_60, gz_61, gz_71, gz_99, gz_100, gz_110, gz_127, gz_255, gz_4095, gz_4096, gz_9999] at c1 c2 ⊢; omega)])

set_option maxHeartbeats 4000000 in
set_option maxRecDepth 100000 in
theorem c_X9_meaningOf (l : Launch) (G : gW) (t lp : Nat) (π ρ : gPS) (ws : Int32) : gCI l yX9_meaningOf cX9_meaningOf 4 .int (gRm 0 0) G [.ref t, .int ws] (fun H => gSg G t (gLS G t π lp ρ) H) (fun r H => r = gMean (π 1) ws 12) (fun _ => False) := by
  refine g_start (by decide) (Nat.le_of_ble_eq_true rfl) ?_
  intro p e s m args below meth c ls Q hQ hX hE hP hl
  obtain ⟨hx, hb, hr, hml, hown, hT, hlk, hnm⟩ := hX
  have hK := hE.2.1
  have h1 := hP
  have hS : va_S (fun _ => False) s.heap s.heap [] := va_S.rf
  have hl : lv_has ls 4 [(0, .ref t), (1, .int ws)] := hl
  refine lv_iconst (v := 0) hx hb dX9_meaningOf_0 (by decide) ?_
  refine lv_istore_n (lv' := [(2, .int 0), (0, .ref t), (1, .int ws)]) hx hb dX9_meaningOf_1 rfl hl (by decide) rfl (fun ls hl => ?_)
  refine lv_iconst (v := 0) hx hb dX9_meaningOf_2 (by decide) ?_
  refine lv_istore_n (lv' := [(3, .int 0), (2, .int 0), (0, .ref t), (1, .int ws)]) hx hb dX9_meaningOf_3 rfl hl (by decide) rfl (fun ls hl => ?_)
  have loop : ∀ (d k : Nat), k + d = 12 → ∀ ls, lv_has ls 4 [(0, .ref t), (1, .int ws), (2, .int (gMean (π 1) ws k)), (3, .int (nI k))] → W p l e (gRm 0 0) s m args below meth c s.heap [] 0 0 Q (F0 m 4 ls []) := by
    intro d
    induction d with
    | zero =>
      intro k hk   ls hl
      have hk : k = 12 := by omega
      refine lv_iload_n hx hb dX9_meaningOf_4 rfl (lv_at hl 3 rfl) ?_
      refine lv_bipush (v := 12) hx hb dX9_meaningOf_5 (by decide) ?_
      refine lv_icmp_ge (tgt := 33) hx hb dX9_meaningOf_7 (by decide) (fun c1 => ?_) (fun c1 => ?_)
      · have c1 : 12 ≤ k := (gLe (a := 12) (b := k) rfl rfl (by omega) (by omega)).mp c1
        refine lv_iload_n hx hb dX9_meaningOf_33 rfl (lv_at hl 2 rfl) ?_
        rw [← hQ]
        exact g_iret hx hb hr hlk hS dX9_meaningOf_34 (by rw [hk])
      · have c1 : ¬ 12 ≤ k := fun z => c1 ((gLe (a := 12) (b := k) rfl rfl (by omega) (by omega)).mpr z)
        exact absurd c1 (by omega)
    | succ d ih =>
      intro k hk   ls hl
      refine lv_iload_n hx hb dX9_meaningOf_4 rfl (lv_at hl 3 rfl) ?_
      refine lv_bipush (v := 12) hx hb dX9_meaningOf_5 (by decide) ?_
      refine lv_icmp_ge (tgt := 33) hx hb dX9_meaningOf_7 (by decide) (fun c2 => ?_) (fun c2 => ?_)
      · have c2 : 12 ≤ k := (gLe (a := 12) (b := k) rfl rfl (by omega) (by omega)).mp c2
        exact absurd c2 (by omega)
      · have c2 : ¬ 12 ≤ k := fun z => c2 ((gLe (a := 12) (b := k) rfl rfl (by omega) (by omega)).mpr z)
        refine lv_iload_n hx hb dX9_meaningOf_10 rfl (lv_at hl 1 rfl) ?_
        refine lv_iload_n hx hb dX9_meaningOf_11 rfl (lv_at hl 3 rfl) ?_
        refine lv_ishr hx hb dX9_meaningOf_12 ?_
        refine lv_iconst (v := 1) hx hb dX9_meaningOf_13 (by decide) ?_
        refine lv_iand hx hb dX9_meaningOf_14 ?_
        refine lv_if_eq (tgt := 27) hx hb dX9_meaningOf_15 (by decide) (fun c3 => ?_) (fun c3 => ?_)
        · refine lv_iinc (v := nI (k + 1)) (lv' := [(3, .int (nI (k + 1))), (0, .ref t), (1, .int ws), (2, .int (gMean (π 1) ws k))]) hx hb dX9_meaningOf_27 hl (k := 3) rfl (gAdd rfl (show Int32.ofInt 1 = nI 1 from rfl)) (by decide) rfl (fun ls hl => ?_)
          refine lv_goto (tgt := 4) hx hb dX9_meaningOf_30 (by decide) ?_
          exact ih (k + 1) (by omega)   _ (by have hl := lv_sub hl [1, 2, 3, 0] rfl; rw [show (gMean (π 1) ws k : Int32) = gMean (π 1) ws (k + 1) from by rw [gMean, if_pos c3]] at hl; exact hl)
        · refine lv_iload_n hx hb dX9_meaningOf_18 rfl (lv_at hl 2 rfl) ?_
          refine lv_aload_n hx hb dX9_meaningOf_19 rfl (lv_at hl 0 rfl) ?_
          refine g_get (v := .ref (t + 3)) (T := TX9) (ci := 9) (N := 16) hx hb hown hK (gY_X9 hT) rfl (h1 0 _ rfl) 2 (by decide) (hT _ gf_X9_21) rfl dX9_meaningOf_20 ?_
          refine lv_iload_n hx hb dX9_meaningOf_23 rfl (lv_at hl 3 rfl) ?_
          refine g_ia (j := k) hx hb hK (h1 3 _ rfl) rfl (by omega) (by decide) rfl dX9_meaningOf_24 ?_
          refine lv_ior hx hb dX9_meaningOf_25 ?_
          refine lv_istore_n (lv' := [(2, .int ((gMean (π 1) ws k) ||| ((π 1) k))), (0, .ref t), (1, .int ws), (3, .int (nI k))]) hx hb dX9_meaningOf_26 rfl hl (by decide) rfl (fun ls hl => ?_)
          refine lv_iinc (v := nI (k + 1)) (lv' := [(3, .int (nI (k + 1))), (2, .int ((gMean (π 1) ws k) ||| ((π 1) k))), (0, .ref t), (1, .int ws)]) hx hb dX9_meaningOf_27 hl (k := 3) rfl (gAdd rfl (show Int32.ofInt 1 = nI 1 from rfl)) (by decide) rfl (fun ls hl => ?_)
          refine lv_goto (tgt := 4) hx hb dX9_meaningOf_30 (by decide) ?_
          exact ih (k + 1) (by omega)   _ (by have hl := lv_sub hl [2, 3, 1, 0] rfl; rw [show ((gMean (π 1) ws k) ||| ((π 1) k) : Int32) = gMean (π 1) ws (k + 1) from by rw [gMean, if_neg c3]] at hl; exact hl)
  exact loop (12 - 0) 0 (by omega)  _ (lv_sub hl [2, 3, 1, 0] rfl)
