set_option maxHeartbeats 4000000 in
set_option maxRecDepth 100000 in
theorem c_X11_isUnder_0 (l : Launch) (G : gW) (k0 k : Nat) (hk7 : k < 7) : gCI l yX11_isUnder cX11_isUnder 2 .boolean (gRm 0 0) G [.ref (k0 + 0), .int (nI k)] (fun H => gSg G k0 (gKk G k0) H) (fun r H => r = gB (nI k = nI 0 ∨ nI k = 0 ∨ (nI 0 = 4 ∧ nI k = 1) ∨ (nI 0 = 5 ∧ nI k = 2) ∨ (nI 0 = 6 ∧ nI k = 3))) (fun _ => False) := by
  refine g_start (by decide) (Nat.le_of_ble_eq_true rfl) ?_
  intro pp_ ee_ s mm_ aa_ below meth cc_ ls Q hQ hX hE hP hl
  obtain ⟨hx, hb, hr, hml, hown, hT, hlk, hnm⟩ := hX
  have hK := hE.2.1
  have zK := hP
  have hS : va_S (fun _ => False) s.heap s.heap [] := va_S.rf
  have hl : lv_has ls 2 [(0, .ref (k0 + 0)), (1, .int (nI k))] := hl
  rcases gKd7 hk7 with rfl | rfl | rfl | rfl | rfl | rfl | rfl
  · have hl : lv_has ls 2 [(0, .ref (k0 + 0)), (1, .int 0)] := hl
    refine lv_iload_n hx hb dX11_isUnder_0 rfl (lv_at hl 1 rfl) ?_
    refine lv_tableIn (off := 39) (tgt := 40) hx hb dX11_isUnder_1 (by decide) (by decide) (by decide) (by decide) ?_
    refine lv_iconst (v := 1) hx hb dX11_isUnder_40 (by decide) ?_
    rw [← hQ]
    exact g_zret hx hb hr hlk rfl hS dX11_isUnder_41 (by decide)
  · have hl : lv_has ls 2 [(0, .ref (k0 + 0)), (1, .int 1)] := hl
    refine lv_iload_n hx hb dX11_isUnder_0 rfl (lv_at hl 1 rfl) ?_
    refine lv_tableIn (off := 41) (tgt := 42) hx hb dX11_isUnder_1 (by decide) (by decide) (by decide) (by decide) ?_
    refine lv_aload_n hx hb dX11_isUnder_42 rfl (lv_at hl 0 rfl) ?_
    refine va_instNo (C := RX7) (nm := RX2) hx hb hown (hT _ gk_X11_266) (hE.2.2.2.2.1 (RX7, RX2) (List.mem_of_getElem? (i := 0) rfl)) (va_recv (q := (RX7, TX7, 0)) (ci := 7) hE.2.1 (gP1 (zK 0 _ rfl)) rfl (q0 := 0) rfl) dX11_isUnder_43 ?_
    rw [← hQ]
    exact g_zret hx hb hr hlk rfl hS dX11_isUnder_46 (by decide)
  · have hl : lv_has ls 2 [(0, .ref (k0 + 0)), (1, .int 2)] := hl
    refine lv_iload_n hx hb dX11_isUnder_0 rfl (lv_at hl 1 rfl) ?_
    refine lv_tableIn (off := 46) (tgt := 47) hx hb dX11_isUnder_1 (by decide) (by decide) (by decide) (by decide) ?_
    refine lv_aload_n hx hb dX11_isUnder_47 rfl (lv_at hl 0 rfl) ?_
    refine va_instNo (C := RX7) (nm := RX1) hx hb hown (hT _ gk_X11_268) (hE.2.2.2.2.1 (RX7, RX1) (List.mem_of_getElem? (i := 5) rfl)) (va_recv (q := (RX7, TX7, 0)) (ci := 7) hE.2.1 (gP1 (zK 0 _ rfl)) rfl (q0 := 0) rfl) dX11_isUnder_48 ?_
    rw [← hQ]
    exact g_zret hx hb hr hlk rfl hS dX11_isUnder_51 (by decide)
  · have hl : lv_has ls 2 [(0, .ref (k0 + 0)), (1, .int 3)] := hl
    refine lv_iload_n hx hb dX11_isUnder_0 rfl (lv_at hl 1 rfl) ?_
    refine lv_tableIn (off := 51) (tgt := 52) hx hb dX11_isUnder_1 (by decide) (by decide) (by decide) (by decide) ?_
    refine lv_aload_n hx hb dX11_isUnder_52 rfl (lv_at hl 0 rfl) ?_
    refine va_instNo (C := RX7) (nm := RX4) hx hb hown (hT _ gk_X11_270) (hE.2.2.2.2.1 (RX7, RX4) (List.mem_of_getElem? (i := 10) rfl)) (va_recv (q := (RX7, TX7, 0)) (ci := 7) hE.2.1 (gP1 (zK 0 _ rfl)) rfl (q0 := 0) rfl) dX11_isUnder_53 ?_
    rw [← hQ]
    exact g_zret hx hb hr hlk rfl hS dX11_isUnder_56 (by decide)
  · have hl : lv_has ls 2 [(0, .ref (k0 + 0)), (1, .int 4)] := hl
    refine lv_iload_n hx hb dX11_isUnder_0 rfl (lv_at hl 1 rfl) ?_
    refine lv_tableIn (off := 56) (tgt := 57) hx hb dX11_isUnder_1 (by decide) (by decide) (by decide) (by decide) ?_
    refine lv_aload_n hx hb dX11_isUnder_57 rfl (lv_at hl 0 rfl) ?_
    refine va_instNo (C := RX7) (nm := RX3) hx hb hown (hT _ gk_X11_272) (hE.2.2.2.2.1 (RX7, RX3) (List.mem_of_getElem? (i := 15) rfl)) (va_recv (q := (RX7, TX7, 0)) (ci := 7) hE.2.1 (gP1 (zK 0 _ rfl)) rfl (q0 := 0) rfl) dX11_isUnder_58 ?_
    rw [← hQ]
    exact g_zret hx hb hr hlk rfl hS dX11_isUnder_61 (by decide)
  · have hl : lv_has ls 2 [(0, .ref (k0 + 0)), (1, .int 5)] := hl
    refine lv_iload_n hx hb dX11_isUnder_0 rfl (lv_at hl 1 rfl) ?_
    refine lv_tableIn (off := 61) (tgt := 62) hx hb dX11_isUnder_1 (by decide) (by decide) (by decide) (by decide) ?_
    refine lv_aload_n hx hb dX11_isUnder_62 rfl (lv_at hl 0 rfl) ?_
    refine va_instNo (C := RX7) (nm := RX6) hx hb hown (hT _ gk_X11_274) (hE.2.2.2.2.1 (RX7, RX6) (List.mem_of_getElem? (i := 21) rfl)) (va_recv (q := (RX7, TX7, 0)) (ci := 7) hE.2.1 (gP1 (zK 0 _ rfl)) rfl (q0 := 0) rfl) dX11_isUnder_63 ?_
    rw [← hQ]
    exact g_zret hx hb hr hlk rfl hS dX11_isUnder_66 (by decide)
  · have hl : lv_has ls 2 [(0, .ref (k0 + 0)), (1, .int 6)] := hl
    refine lv_iload_n hx hb dX11_isUnder_0 rfl (lv_at hl 1 rfl) ?_
    refine lv_tableOut (tgt := 67) hx hb dX11_isUnder_1 (by decide) (by decide) ?_
    refine lv_aload_n hx hb dX11_isUnder_67 rfl (lv_at hl 0 rfl) ?_
    refine va_instNo (C := RX7) (nm := RX10) hx hb hown (hT _ gk_X11_276) (hE.2.2.2.2.1 (RX7, RX10) (List.mem_of_getElem? (i := 27) rfl)) (va_recv (q := (RX7, TX7, 0)) (ci := 7) hE.2.1 (gP1 (zK 0 _ rfl)) rfl (q0 := 0) rfl) dX11_isUnder_68 ?_
    rw [← hQ]
    exact g_zret hx hb hr hlk rfl hS dX11_isUnder_71 (by decide)

set_option maxHeartbeats 4000000 in
set_option maxRecDepth 100000 in
theorem c_X11_isUnder_1 (l : Launch) (G : gW) (k0 k : Nat) (hk7 : k < 7) : gCI l yX11_isUnder cX11_isUnder 2 .boolean (gRm 0 0) G [.ref (k0 + 1), .int (nI k)] (fun H => gSg G k0 (gKk G k0) H) (fun r H => r = gB (nI k = nI 1 ∨ nI k = 0 ∨ (nI 1 = 4 ∧ nI k = 1) ∨ (nI 1 = 5 ∧ nI k = 2) ∨ (nI 1 = 6 ∧ nI k = 3))) (fun _ => False) := by
  refine g_start (by decide) (Nat.le_of_ble_eq_true rfl) ?_
  intro pp_ ee_ s mm_ aa_ below meth cc_ ls Q hQ hX hE hP hl
  obtain ⟨hx, hb, hr, hml, hown, hT, hlk, hnm⟩ := hX
  have hK := hE.2.1
  have zK := hP
  have hS : va_S (fun _ => False) s.heap s.heap [] := va_S.rf
  have hl : lv_has ls 2 [(0, .ref (k0 + 1)), (1, .int (nI k))] := hl
  rcases gKd7 hk7 with rfl | rfl | rfl | rfl | rfl | rfl | rfl
  · have hl : lv_has ls 2 [(0, .ref (k0 + 1)), (1, .int 0)] := hl
    refine lv_iload_n hx hb dX11_isUnder_0 rfl (lv_at hl 1 rfl) ?_
    refine lv_tableIn (off := 39) (tgt := 40) hx hb dX11_isUnder_1 (by decide) (by decide) (by decide) (by decide) ?_
    refine lv_iconst (v := 1) hx hb dX11_isUnder_40 (by decide) ?_
    rw [← hQ]
    exact g_zret hx hb hr hlk rfl hS dX11_isUnder_41 (by decide)
  · have hl : lv_has ls 2 [(0, .ref (k0 + 1)), (1, .int 1)] := hl
    refine lv_iload_n hx hb dX11_isUnder_0 rfl (lv_at hl 1 rfl) ?_
    refine lv_tableIn (off := 41) (tgt := 42) hx hb dX11_isUnder_1 (by decide) (by decide) (by decide) (by decide) ?_
    refine lv_aload_n hx hb dX11_isUnder_42 rfl (lv_at hl 0 rfl) ?_
    refine va_instY (C := RX2) (nm := RX2) hx hb hown (hT _ gk_X11_266) (hE.2.2.2.1 (RX2, RX2) (List.mem_of_getElem? (i := 7) rfl)) (va_recv (q := (RX2, TX2, 0)) (ci := 2) hE.2.1 (gP1 (zK 1 _ rfl)) rfl (q0 := 0) rfl) dX11_isUnder_43 ?_
    rw [← hQ]
    exact g_zret hx hb hr hlk rfl hS dX11_isUnder_46 (by decide)
  · have hl : lv_has ls 2 [(0, .ref (k0 + 1)), (1, .int 2)] := hl
    refine lv_iload_n hx hb dX11_isUnder_0 rfl (lv_at hl 1 rfl) ?_
    refine lv_tableIn (off := 46) (tgt := 47) hx hb dX11_isUnder_1 (by decide) (by decide) (by decide) (by decide) ?_
    refine lv_aload_n hx hb dX11_isUnder_47 rfl (lv_at hl 0 rfl) ?_
    refine va_instNo (C := RX2) (nm := RX1) hx hb hown (hT _ gk_X11_268) (hE.2.2.2.2.1 (RX2, RX1) (List.mem_of_getElem? (i := 6) rfl)) (va_recv (q := (RX2, TX2, 0)) (ci := 2) hE.2.1 (gP1 (zK 1 _ rfl)) rfl (q0 := 0) rfl) dX11_isUnder_48 ?_
    rw [← hQ]
    exact g_zret hx hb hr hlk rfl hS dX11_isUnder_51 (by decide)
  · have hl : lv_has ls 2 [(0, .ref (k0 + 1)), (1, .int 3)] := hl
    refine lv_iload_n hx hb dX11_isUnder_0 rfl (lv_at hl 1 rfl) ?_
    refine lv_tableIn (off := 51) (tgt := 52) hx hb dX11_isUnder_1 (by decide) (by decide) (by decide) (by decide) ?_
    refine lv_aload_n hx hb dX11_isUnder_52 rfl (lv_at hl 0 rfl) ?_
    refine va_instNo (C := RX2) (nm := RX4) hx hb hown (hT _ gk_X11_270) (hE.2.2.2.2.1 (RX2, RX4) (List.mem_of_getElem? (i := 11) rfl)) (va_recv (q := (RX2, TX2, 0)) (ci := 2) hE.2.1 (gP1 (zK 1 _ rfl)) rfl (q0 := 0) rfl) dX11_isUnder_53 ?_
    rw [← hQ]
    exact g_zret hx hb hr hlk rfl hS dX11_isUnder_56 (by decide)
  · have hl : lv_has ls 2 [(0, .ref (k0 + 1)), (1, .int 4)] := hl
    refine lv_iload_n hx hb dX11_isUnder_0 rfl (lv_at hl 1 rfl) ?_
    refine lv_tableIn (off := 56) (tgt := 57) hx hb dX11_isUnder_1 (by decide) (by decide) (by decide) (by decide) ?_
    refine lv_aload_n hx hb dX11_isUnder_57 rfl (lv_at hl 0 rfl) ?_
    refine va_instNo (C := RX2) (nm := RX3) hx hb hown (hT _ gk_X11_272) (hE.2.2.2.2.1 (RX2, RX3) (List.mem_of_getElem? (i := 16) rfl)) (va_recv (q := (RX2, TX2, 0)) (ci := 2) hE.2.1 (gP1 (zK 1 _ rfl)) rfl (q0 := 0) rfl) dX11_isUnder_58 ?_
    rw [← hQ]
    exact g_zret hx hb hr hlk rfl hS dX11_isUnder_61 (by decide)
  · have hl : lv_has ls 2 [(0, .ref (k0 + 1)), (1, .int 5)] := hl
    refine lv_iload_n hx hb dX11_isUnder_0 rfl (lv_at hl 1 rfl) ?_
    refine lv_tableIn (off := 61) (tgt := 62) hx hb dX11_isUnder_1 (by decide) (by decide) (by decide) (by decide) ?_
    refine lv_aload_n hx hb dX11_isUnder_62 rfl (lv_at hl 0 rfl) ?_
    refine va_instNo (C := RX2) (nm := RX6) hx hb hown (hT _ gk_X11_274) (hE.2.2.2.2.1 (RX2, RX6) (List.mem_of_getElem? (i := 22) rfl)) (va_recv (q := (RX2, TX2, 0)) (ci := 2) hE.2.1 (gP1 (zK 1 _ rfl)) rfl (q0 := 0) rfl) dX11_isUnder_63 ?_
    rw [← hQ]
    exact g_zret hx hb hr hlk rfl hS dX11_isUnder_66 (by decide)
  · have hl : lv_has ls 2 [(0, .ref (k0 + 1)), (1, .int 6)] := hl
    refine lv_iload_n hx hb dX11_isUnder_0 rfl (lv_at hl 1 rfl) ?_
    refine lv_tableOut (tgt := 67) hx hb dX11_isUnder_1 (by decide) (by decide) ?_
    refine lv_aload_n hx hb dX11_isUnder_67 rfl (lv_at hl 0 rfl) ?_
    refine va_instNo (C := RX2) (nm := RX10) hx hb hown (hT _ gk_X11_276) (hE.2.2.2.2.1 (RX2, RX10) (List.mem_of_getElem? (i := 28) rfl)) (va_recv (q := (RX2, TX2, 0)) (ci := 2) hE.2.1 (gP1 (zK 1 _ rfl)) rfl (q0 := 0) rfl) dX11_isUnder_68 ?_
    rw [← hQ]
    exact g_zret hx hb hr hlk rfl hS dX11_isUnder_71 (by decide)

set_option maxHeartbeats 4000000 in
set_option maxRecDepth 100000 in
theorem c_X11_isUnder_2 (l : Launch) (G : gW) (k0 k : Nat) (hk7 : k < 7) : gCI l yX11_isUnder cX11_isUnder 2 .boolean (gRm 0 0) G [.ref (k0 + 2), .int (nI k)] (fun H => gSg G k0 (gKk G k0) H) (fun r H => r = gB (nI k = nI 2 ∨ nI k = 0 ∨ (nI 2 = 4 ∧ nI k = 1) ∨ (nI 2 = 5 ∧ nI k = 2) ∨ (nI 2 = 6 ∧ nI k = 3))) (fun _ => False) := by
  refine g_start (by decide) (Nat.le_of_ble_eq_true rfl) ?_
  intro pp_ ee_ s mm_ aa_ below meth cc_ ls Q hQ hX hE hP hl
  obtain ⟨hx, hb, hr, hml, hown, hT, hlk, hnm⟩ := hX
  have hK := hE.2.1
  have zK := hP
  have hS : va_S (fun _ => False) s.heap s.heap [] := va_S.rf
  have hl : lv_has ls 2 [(0, .ref (k0 + 2)), (1, .int (nI k))] := hl
  rcases gKd7 hk7 with rfl | rfl | rfl | rfl | rfl | rfl | rfl
  · have hl : lv_has ls 2 [(0, .ref (k0 + 2)), (1, .int 0)] := hl
    refine lv_iload_n hx hb dX11_isUnder_0 rfl (lv_at hl 1 rfl) ?_
    refine lv_tableIn (off := 39) (tgt := 40) hx hb dX11_isUnder_1 (by decide) (by decide) (by decide) (by decide) ?_
    refine lv_iconst (v := 1) hx hb dX11_isUnder_40 (by decide) ?_
    rw [← hQ]
    exact g_zret hx hb hr hlk rfl hS dX11_isUnder_41 (by decide)
  · have hl : lv_has ls 2 [(0, .ref (k0 + 2)), (1, .int 1)] := hl
    refine lv_iload_n hx hb dX11_isUnder_0 rfl (lv_at hl 1 rfl) ?_
    refine lv_tableIn (off := 41) (tgt := 42) hx hb dX11_isUnder_1 (by decide) (by decide) (by decide) (by decide) ?_
    refine lv_aload_n hx hb dX11_isUnder_42 rfl (lv_at hl 0 rfl) ?_
    refine va_instNo (C := RX1) (nm := RX2) hx hb hown (hT _ gk_X11_266) (hE.2.2.2.2.1 (RX1, RX2) (List.mem_of_getElem? (i := 1) rfl)) (va_recv (q := (RX1, TX1, 0)) (ci := 1) hE.2.1 (gP1 (zK 2 _ rfl)) rfl (q0 := 0) rfl) dX11_isUnder_43 ?_
    rw [← hQ]
    exact g_zret hx hb hr hlk rfl hS dX11_isUnder_46 (by decide)
  · have hl : lv_has ls 2 [(0, .ref (k0 + 2)), (1, .int 2)] := hl
    refine lv_iload_n hx hb dX11_isUnder_0 rfl (lv_at hl 1 rfl) ?_
    refine lv_tableIn (off := 46) (tgt := 47) hx hb dX11_isUnder_1 (by decide) (by decide) (by decide) (by decide) ?_
    refine lv_aload_n hx hb dX11_isUnder_47 rfl (lv_at hl 0 rfl) ?_
    refine va_instY (C := RX1) (nm := RX1) hx hb hown (hT _ gk_X11_268) (hE.2.2.2.1 (RX1, RX1) (List.mem_of_getElem? (i := 9) rfl)) (va_recv (q := (RX1, TX1, 0)) (ci := 1) hE.2.1 (gP1 (zK 2 _ rfl)) rfl (q0 := 0) rfl) dX11_isUnder_48 ?_
    rw [← hQ]
    exact g_zret hx hb hr hlk rfl hS dX11_isUnder_51 (by decide)
  · have hl : lv_has ls 2 [(0, .ref (k0 + 2)), (1, .int 3)] := hl
    refine lv_iload_n hx hb dX11_isUnder_0 rfl (lv_at hl 1 rfl) ?_
    refine lv_tableIn (off := 51) (tgt := 52) hx hb dX11_isUnder_1 (by decide) (by decide) (by decide) (by decide) ?_
    refine lv_aload_n hx hb dX11_isUnder_52 rfl (lv_at hl 0 rfl) ?_
    refine va_instNo (C := RX1) (nm := RX4) hx hb hown (hT _ gk_X11_270) (hE.2.2.2.2.1 (RX1, RX4) (List.mem_of_getElem? (i := 12) rfl)) (va_recv (q := (RX1, TX1, 0)) (ci := 1) hE.2.1 (gP1 (zK 2 _ rfl)) rfl (q0 := 0) rfl) dX11_isUnder_53 ?_
    rw [← hQ]
    exact g_zret hx hb hr hlk rfl hS dX11_isUnder_56 (by decide)
  · have hl : lv_has ls 2 [(0, .ref (k0 + 2)), (1, .int 4)] := hl
    refine lv_iload_n hx hb dX11_isUnder_0 rfl (lv_at hl 1 rfl) ?_
    refine lv_tableIn (off := 56) (tgt := 57) hx hb dX11_isUnder_1 (by decide) (by decide) (by decide) (by decide) ?_
    refine lv_aload_n hx hb dX11_isUnder_57 rfl (lv_at hl 0 rfl) ?_
    refine va_instNo (C := RX1) (nm := RX3) hx hb hown (hT _ gk_X11_272) (hE.2.2.2.2.1 (RX1, RX3) (List.mem_of_getElem? (i := 17) rfl)) (va_recv (q := (RX1, TX1, 0)) (ci := 1) hE.2.1 (gP1 (zK 2 _ rfl)) rfl (q0 := 0) rfl) dX11_isUnder_58 ?_
    rw [← hQ]
    exact g_zret hx hb hr hlk rfl hS dX11_isUnder_61 (by decide)
  · have hl : lv_has ls 2 [(0, .ref (k0 + 2)), (1, .int 5)] := hl
    refine lv_iload_n hx hb dX11_isUnder_0 rfl (lv_at hl 1 rfl) ?_
    refine lv_tableIn (off := 61) (tgt := 62) hx hb dX11_isUnder_1 (by decide) (by decide) (by decide) (by decide) ?_
    refine lv_aload_n hx hb dX11_isUnder_62 rfl (lv_at hl 0 rfl) ?_
    refine va_instNo (C := RX1) (nm := RX6) hx hb hown (hT _ gk_X11_274) (hE.2.2.2.2.1 (RX1, RX6) (List.mem_of_getElem? (i := 23) rfl)) (va_recv (q := (RX1, TX1, 0)) (ci := 1) hE.2.1 (gP1 (zK 2 _ rfl)) rfl (q0 := 0) rfl) dX11_isUnder_63 ?_
    rw [← hQ]
    exact g_zret hx hb hr hlk rfl hS dX11_isUnder_66 (by decide)
  · have hl : lv_has ls 2 [(0, .ref (k0 + 2)), (1, .int 6)] := hl
    refine lv_iload_n hx hb dX11_isUnder_0 rfl (lv_at hl 1 rfl) ?_
    refine lv_tableOut (tgt := 67) hx hb dX11_isUnder_1 (by decide) (by decide) ?_
    refine lv_aload_n hx hb dX11_isUnder_67 rfl (lv_at hl 0 rfl) ?_
    refine va_instNo (C := RX1) (nm := RX10) hx hb hown (hT _ gk_X11_276) (hE.2.2.2.2.1 (RX1, RX10) (List.mem_of_getElem? (i := 29) rfl)) (va_recv (q := (RX1, TX1, 0)) (ci := 1) hE.2.1 (gP1 (zK 2 _ rfl)) rfl (q0 := 0) rfl) dX11_isUnder_68 ?_
    rw [← hQ]
    exact g_zret hx hb hr hlk rfl hS dX11_isUnder_71 (by decide)

set_option maxHeartbeats 4000000 in
set_option maxRecDepth 100000 in
theorem c_X11_isUnder_3 (l : Launch) (G : gW) (k0 k : Nat) (hk7 : k < 7) : gCI l yX11_isUnder cX11_isUnder 2 .boolean (gRm 0 0) G [.ref (k0 + 3), .int (nI k)] (fun H => gSg G k0 (gKk G k0) H) (fun r H => r = gB (nI k = nI 3 ∨ nI k = 0 ∨ (nI 3 = 4 ∧ nI k = 1) ∨ (nI 3 = 5 ∧ nI k = 2) ∨ (nI 3 = 6 ∧ nI k = 3))) (fun _ => False) := by
  refine g_start (by decide) (Nat.le_of_ble_eq_true rfl) ?_
  intro pp_ ee_ s mm_ aa_ below meth cc_ ls Q hQ hX hE hP hl
  obtain ⟨hx, hb, hr, hml, hown, hT, hlk, hnm⟩ := hX
  have hK := hE.2.1
  have zK := hP
  have hS : va_S (fun _ => False) s.heap s.heap [] := va_S.rf
  have hl : lv_has ls 2 [(0, .ref (k0 + 3)), (1, .int (nI k))] := hl
  rcases gKd7 hk7 with rfl | rfl | rfl | rfl | rfl | rfl | rfl
  · have hl : lv_has ls 2 [(0, .ref (k0 + 3)), (1, .int 0)] := hl
    refine lv_iload_n hx hb dX11_isUnder_0 rfl (lv_at hl 1 rfl) ?_
    refine lv_tableIn (off := 39) (tgt := 40) hx hb dX11_isUnder_1 (by decide) (by decide) (by decide) (by decide) ?_
    refine lv_iconst (v := 1) hx hb dX11_isUnder_40 (by decide) ?_
    rw [← hQ]
    exact g_zret hx hb hr hlk rfl hS dX11_isUnder_41 (by decide)
  · have hl : lv_has ls 2 [(0, .ref (k0 + 3)), (1, .int 1)] := hl
    refine lv_iload_n hx hb dX11_isUnder_0 rfl (lv_at hl 1 rfl) ?_
    refine lv_tableIn (off := 41) (tgt := 42) hx hb dX11_isUnder_1 (by decide) (by decide) (by decide) (by decide) ?_
    refine lv_aload_n hx hb dX11_isUnder_42 rfl (lv_at hl 0 rfl) ?_
    refine va_instNo (C := RX4) (nm := RX2) hx hb hown (hT _ gk_X11_266) (hE.2.2.2.2.1 (RX4, RX2) (List.mem_of_getElem? (i := 2) rfl)) (va_recv (q := (RX4, TX4, 0)) (ci := 4) hE.2.1 (gP1 (zK 3 _ rfl)) rfl (q0 := 0) rfl) dX11_isUnder_43 ?_
    rw [← hQ]
    exact g_zret hx hb hr hlk rfl hS dX11_isUnder_46 (by decide)
  · have hl : lv_has ls 2 [(0, .ref (k0 + 3)), (1, .int 2)] := hl
    refine lv_iload_n hx hb dX11_isUnder_0 rfl (lv_at hl 1 rfl) ?_
    refine lv_tableIn (off := 46) (tgt := 47) hx hb dX11_isUnder_1 (by decide) (by decide) (by decide) (by decide) ?_
    refine lv_aload_n hx hb dX11_isUnder_47 rfl (lv_at hl 0 rfl) ?_
    refine va_instNo (C := RX4) (nm := RX1) hx hb hown (hT _ gk_X11_268) (hE.2.2.2.2.1 (RX4, RX1) (List.mem_of_getElem? (i := 7) rfl)) (va_recv (q := (RX4, TX4, 0)) (ci := 4) hE.2.1 (gP1 (zK 3 _ rfl)) rfl (q0 := 0) rfl) dX11_isUnder_48 ?_
    rw [← hQ]
    exact g_zret hx hb hr hlk rfl hS dX11_isUnder_51 (by decide)
  · have hl : lv_has ls 2 [(0, .ref (k0 + 3)), (1, .int 3)] := hl
    refine lv_iload_n hx hb dX11_isUnder_0 rfl (lv_at hl 1 rfl) ?_
    refine lv_tableIn (off := 51) (tgt := 52) hx hb dX11_isUnder_1 (by decide) (by decide) (by decide) (by decide) ?_
    refine lv_aload_n hx hb dX11_isUnder_52 rfl (lv_at hl 0 rfl) ?_
    refine va_instY (C := RX4) (nm := RX4) hx hb hown (hT _ gk_X11_270) (hE.2.2.2.1 (RX4, RX4) (List.mem_of_getElem? (i := 11) rfl)) (va_recv (q := (RX4, TX4, 0)) (ci := 4) hE.2.1 (gP1 (zK 3 _ rfl)) rfl (q0 := 0) rfl) dX11_isUnder_53 ?_
    rw [← hQ]
    exact g_zret hx hb hr hlk rfl hS dX11_isUnder_56 (by decide)
  · have hl : lv_has ls 2 [(0, .ref (k0 + 3)), (1, .int 4)] := hl
    refine lv_iload_n hx hb dX11_isUnder_0 rfl (lv_at hl 1 rfl) ?_
    refine lv_tableIn (off := 56) (tgt := 57) hx hb dX11_isUnder_1 (by decide) (by decide) (by decide) (by decide) ?_
    refine lv_aload_n hx hb dX11_isUnder_57 rfl (lv_at hl 0 rfl) ?_
    refine va_instNo (C := RX4) (nm := RX3) hx hb hown (hT _ gk_X11_272) (hE.2.2.2.2.1 (RX4, RX3) (List.mem_of_getElem? (i := 18) rfl)) (va_recv (q := (RX4, TX4, 0)) (ci := 4) hE.2.1 (gP1 (zK 3 _ rfl)) rfl (q0 := 0) rfl) dX11_isUnder_58 ?_
    rw [← hQ]
    exact g_zret hx hb hr hlk rfl hS dX11_isUnder_61 (by decide)
  · have hl : lv_has ls 2 [(0, .ref (k0 + 3)), (1, .int 5)] := hl
    refine lv_iload_n hx hb dX11_isUnder_0 rfl (lv_at hl 1 rfl) ?_
    refine lv_tableIn (off := 61) (tgt := 62) hx hb dX11_isUnder_1 (by decide) (by decide) (by decide) (by decide) ?_
    refine lv_aload_n hx hb dX11_isUnder_62 rfl (lv_at hl 0 rfl) ?_
    refine va_instNo (C := RX4) (nm := RX6) hx hb hown (hT _ gk_X11_274) (hE.2.2.2.2.1 (RX4, RX6) (List.mem_of_getElem? (i := 24) rfl)) (va_recv (q := (RX4, TX4, 0)) (ci := 4) hE.2.1 (gP1 (zK 3 _ rfl)) rfl (q0 := 0) rfl) dX11_isUnder_63 ?_
    rw [← hQ]
    exact g_zret hx hb hr hlk rfl hS dX11_isUnder_66 (by decide)
  · have hl : lv_has ls 2 [(0, .ref (k0 + 3)), (1, .int 6)] := hl
    refine lv_iload_n hx hb dX11_isUnder_0 rfl (lv_at hl 1 rfl) ?_
    refine lv_tableOut (tgt := 67) hx hb dX11_isUnder_1 (by decide) (by decide) ?_
    refine lv_aload_n hx hb dX11_isUnder_67 rfl (lv_at hl 0 rfl) ?_
    refine va_instNo (C := RX4) (nm := RX10) hx hb hown (hT _ gk_X11_276) (hE.2.2.2.2.1 (RX4, RX10) (List.mem_of_getElem? (i := 30) rfl)) (va_recv (q := (RX4, TX4, 0)) (ci := 4) hE.2.1 (gP1 (zK 3 _ rfl)) rfl (q0 := 0) rfl) dX11_isUnder_68 ?_
    rw [← hQ]
    exact g_zret hx hb hr hlk rfl hS dX11_isUnder_71 (by decide)

set_option maxHeartbeats 4000000 in
set_option maxRecDepth 100000 in
theorem c_X11_isUnder_4 (l : Launch) (G : gW) (k0 k : Nat) (hk7 : k < 7) : gCI l yX11_isUnder cX11_isUnder 2 .boolean (gRm 0 0) G [.ref (k0 + 4), .int (nI k)] (fun H => gSg G k0 (gKk G k0) H) (fun r H => r = gB (nI k = nI 4 ∨ nI k = 0 ∨ (nI 4 = 4 ∧ nI k = 1) ∨ (nI 4 = 5 ∧ nI k = 2) ∨ (nI 4 = 6 ∧ nI k = 3))) (fun _ => False) := by
  refine g_start (by decide) (Nat.le_of_ble_eq_true rfl) ?_
  intro pp_ ee_ s mm_ aa_ below meth cc_ ls Q hQ hX hE hP hl
  obtain ⟨hx, hb, hr, hml, hown, hT, hlk, hnm⟩ := hX
  have hK := hE.2.1
  have zK := hP
  have hS : va_S (fun _ => False) s.heap s.heap [] := va_S.rf
  have hl : lv_has ls 2 [(0, .ref (k0 + 4)), (1, .int (nI k))] := hl
  rcases gKd7 hk7 with rfl | rfl | rfl | rfl | rfl | rfl | rfl
  · have hl : lv_has ls 2 [(0, .ref (k0 + 4)), (1, .int 0)] := hl
    refine lv_iload_n hx hb dX11_isUnder_0 rfl (lv_at hl 1 rfl) ?_
    refine lv_tableIn (off := 39) (tgt := 40) hx hb dX11_isUnder_1 (by decide) (by decide) (by decide) (by decide) ?_
    refine lv_iconst (v := 1) hx hb dX11_isUnder_40 (by decide) ?_
    rw [← hQ]
    exact g_zret hx hb hr hlk rfl hS dX11_isUnder_41 (by decide)
  · have hl : lv_has ls 2 [(0, .ref (k0 + 4)), (1, .int 1)] := hl
    refine lv_iload_n hx hb dX11_isUnder_0 rfl (lv_at hl 1 rfl) ?_
    refine lv_tableIn (off := 41) (tgt := 42) hx hb dX11_isUnder_1 (by decide) (by decide) (by decide) (by decide) ?_
    refine lv_aload_n hx hb dX11_isUnder_42 rfl (lv_at hl 0 rfl) ?_
    refine va_instY (C := RX3) (nm := RX2) hx hb hown (hT _ gk_X11_266) (hE.2.2.2.1 (RX3, RX2) (List.mem_of_getElem? (i := 8) rfl)) (va_recv (q := (RX3, TX3, 0)) (ci := 3) hE.2.1 (gP1 (zK 4 _ rfl)) rfl (q0 := 0) rfl) dX11_isUnder_43 ?_
    rw [← hQ]
    exact g_zret hx hb hr hlk rfl hS dX11_isUnder_46 (by decide)
  · have hl : lv_has ls 2 [(0, .ref (k0 + 4)), (1, .int 2)] := hl
    refine lv_iload_n hx hb dX11_isUnder_0 rfl (lv_at hl 1 rfl) ?_
    refine lv_tableIn (off := 46) (tgt := 47) hx hb dX11_isUnder_1 (by decide) (by decide) (by decide) (by decide) ?_
    refine lv_aload_n hx hb dX11_isUnder_47 rfl (lv_at hl 0 rfl) ?_
    refine va_instNo (C := RX3) (nm := RX1) hx hb hown (hT _ gk_X11_268) (hE.2.2.2.2.1 (RX3, RX1) (List.mem_of_getElem? (i := 8) rfl)) (va_recv (q := (RX3, TX3, 0)) (ci := 3) hE.2.1 (gP1 (zK 4 _ rfl)) rfl (q0 := 0) rfl) dX11_isUnder_48 ?_
    rw [← hQ]
    exact g_zret hx hb hr hlk rfl hS dX11_isUnder_51 (by decide)
  · have hl : lv_has ls 2 [(0, .ref (k0 + 4)), (1, .int 3)] := hl
    refine lv_iload_n hx hb dX11_isUnder_0 rfl (lv_at hl 1 rfl) ?_
    refine lv_tableIn (off := 51) (tgt := 52) hx hb dX11_isUnder_1 (by decide) (by decide) (by decide) (by decide) ?_
    refine lv_aload_n hx hb dX11_isUnder_52 rfl (lv_at hl 0 rfl) ?_
    refine va_instNo (C := RX3) (nm := RX4) hx hb hown (hT _ gk_X11_270) (hE.2.2.2.2.1 (RX3, RX4) (List.mem_of_getElem? (i := 13) rfl)) (va_recv (q := (RX3, TX3, 0)) (ci := 3) hE.2.1 (gP1 (zK 4 _ rfl)) rfl (q0 := 0) rfl) dX11_isUnder_53 ?_
    rw [← hQ]
    exact g_zret hx hb hr hlk rfl hS dX11_isUnder_56 (by decide)
  · have hl : lv_has ls 2 [(0, .ref (k0 + 4)), (1, .int 4)] := hl
    refine lv_iload_n hx hb dX11_isUnder_0 rfl (lv_at hl 1 rfl) ?_
    refine lv_tableIn (off := 56) (tgt := 57) hx hb dX11_isUnder_1 (by decide) (by decide) (by decide) (by decide) ?_
    refine lv_aload_n hx hb dX11_isUnder_57 rfl (lv_at hl 0 rfl) ?_
    refine va_instY (C := RX3) (nm := RX3) hx hb hown (hT _ gk_X11_272) (hE.2.2.2.1 (RX3, RX3) (List.mem_of_getElem? (i := 13) rfl)) (va_recv (q := (RX3, TX3, 0)) (ci := 3) hE.2.1 (gP1 (zK 4 _ rfl)) rfl (q0 := 0) rfl) dX11_isUnder_58 ?_
    rw [← hQ]
    exact g_zret hx hb hr hlk rfl hS dX11_isUnder_61 (by decide)
  · have hl : lv_has ls 2 [(0, .ref (k0 + 4)), (1, .int 5)] := hl
    refine lv_iload_n hx hb dX11_isUnder_0 rfl (lv_at hl 1 rfl) ?_
    refine lv_tableIn (off := 61) (tgt := 62) hx hb dX11_isUnder_1 (by decide) (by decide) (by decide) (by decide) ?_
    refine lv_aload_n hx hb dX11_isUnder_62 rfl (lv_at hl 0 rfl) ?_
    refine va_instNo (C := RX3) (nm := RX6) hx hb hown (hT _ gk_X11_274) (hE.2.2.2.2.1 (RX3, RX6) (List.mem_of_getElem? (i := 25) rfl)) (va_recv (q := (RX3, TX3, 0)) (ci := 3) hE.2.1 (gP1 (zK 4 _ rfl)) rfl (q0 := 0) rfl) dX11_isUnder_63 ?_
    rw [← hQ]
    exact g_zret hx hb hr hlk rfl hS dX11_isUnder_66 (by decide)
  · have hl : lv_has ls 2 [(0, .ref (k0 + 4)), (1, .int 6)] := hl
    refine lv_iload_n hx hb dX11_isUnder_0 rfl (lv_at hl 1 rfl) ?_
    refine lv_tableOut (tgt := 67) hx hb dX11_isUnder_1 (by decide) (by decide) ?_
    refine lv_aload_n hx hb dX11_isUnder_67 rfl (lv_at hl 0 rfl) ?_
    refine va_instNo (C := RX3) (nm := RX10) hx hb hown (hT _ gk_X11_276) (hE.2.2.2.2.1 (RX3, RX10) (List.mem_of_getElem? (i := 31) rfl)) (va_recv (q := (RX3, TX3, 0)) (ci := 3) hE.2.1 (gP1 (zK 4 _ rfl)) rfl (q0 := 0) rfl) dX11_isUnder_68 ?_
    rw [← hQ]
    exact g_zret hx hb hr hlk rfl hS dX11_isUnder_71 (by decide)

set_option maxHeartbeats 4000000 in
set_option maxRecDepth 100000 in
theorem c_X11_isUnder_5 (l : Launch) (G : gW) (k0 k : Nat) (hk7 : k < 7) : gCI l yX11_isUnder cX11_isUnder 2 .boolean (gRm 0 0) G [.ref (k0 + 5), .int (nI k)] (fun H => gSg G k0 (gKk G k0) H) (fun r H => r = gB (nI k = nI 5 ∨ nI k = 0 ∨ (nI 5 = 4 ∧ nI k = 1) ∨ (nI 5 = 5 ∧ nI k = 2) ∨ (nI 5 = 6 ∧ nI k = 3))) (fun _ => False) := by
  refine g_start (by decide) (Nat.le_of_ble_eq_true rfl) ?_
  intro pp_ ee_ s mm_ aa_ below meth cc_ ls Q hQ hX hE hP hl
  obtain ⟨hx, hb, hr, hml, hown, hT, hlk, hnm⟩ := hX
  have hK := hE.2.1
  have zK := hP
  have hS : va_S (fun _ => False) s.heap s.heap [] := va_S.rf
  have hl : lv_has ls 2 [(0, .ref (k0 + 5)), (1, .int (nI k))] := hl
  rcases gKd7 hk7 with rfl | rfl | rfl | rfl | rfl | rfl | rfl
  · have hl : lv_has ls 2 [(0, .ref (k0 + 5)), (1, .int 0)] := hl
    refine lv_iload_n hx hb dX11_isUnder_0 rfl (lv_at hl 1 rfl) ?_
    refine lv_tableIn (off := 39) (tgt := 40) hx hb dX11_isUnder_1 (by decide) (by decide) (by decide) (by decide) ?_
    refine lv_iconst (v := 1) hx hb dX11_isUnder_40 (by decide) ?_
    rw [← hQ]
    exact g_zret hx hb hr hlk rfl hS dX11_isUnder_41 (by decide)
  · have hl : lv_has ls 2 [(0, .ref (k0 + 5)), (1, .int 1)] := hl
    refine lv_iload_n hx hb dX11_isUnder_0 rfl (lv_at hl 1 rfl) ?_
    refine lv_tableIn (off := 41) (tgt := 42) hx hb dX11_isUnder_1 (by decide) (by decide) (by decide) (by decide) ?_
    refine lv_aload_n hx hb dX11_isUnder_42 rfl (lv_at hl 0 rfl) ?_
    refine va_instNo (C := RX6) (nm := RX2) hx hb hown (hT _ gk_X11_266) (hE.2.2.2.2.1 (RX6, RX2) (List.mem_of_getElem? (i := 3) rfl)) (va_recv (q := (RX6, TX6, 0)) (ci := 6) hE.2.1 (gP1 (zK 5 _ rfl)) rfl (q0 := 0) rfl) dX11_isUnder_43 ?_
    rw [← hQ]
    exact g_zret hx hb hr hlk rfl hS dX11_isUnder_46 (by decide)
  · have hl : lv_has ls 2 [(0, .ref (k0 + 5)), (1, .int 2)] := hl
    refine lv_iload_n hx hb dX11_isUnder_0 rfl (lv_at hl 1 rfl) ?_
    refine lv_tableIn (off := 46) (tgt := 47) hx hb dX11_isUnder_1 (by decide) (by decide) (by decide) (by decide) ?_
    refine lv_aload_n hx hb dX11_isUnder_47 rfl (lv_at hl 0 rfl) ?_
    refine va_instY (C := RX6) (nm := RX1) hx hb hown (hT _ gk_X11_268) (hE.2.2.2.1 (RX6, RX1) (List.mem_of_getElem? (i := 10) rfl)) (va_recv (q := (RX6, TX6, 0)) (ci := 6) hE.2.1 (gP1 (zK 5 _ rfl)) rfl (q0 := 0) rfl) dX11_isUnder_48 ?_
    rw [← hQ]
    exact g_zret hx hb hr hlk rfl hS dX11_isUnder_51 (by decide)
  · have hl : lv_has ls 2 [(0, .ref (k0 + 5)), (1, .int 3)] := hl
    refine lv_iload_n hx hb dX11_isUnder_0 rfl (lv_at hl 1 rfl) ?_
    refine lv_tableIn (off := 51) (tgt := 52) hx hb dX11_isUnder_1 (by decide) (by decide) (by decide) (by decide) ?_
    refine lv_aload_n hx hb dX11_isUnder_52 rfl (lv_at hl 0 rfl) ?_
    refine va_instNo (C := RX6) (nm := RX4) hx hb hown (hT _ gk_X11_270) (hE.2.2.2.2.1 (RX6, RX4) (List.mem_of_getElem? (i := 14) rfl)) (va_recv (q := (RX6, TX6, 0)) (ci := 6) hE.2.1 (gP1 (zK 5 _ rfl)) rfl (q0 := 0) rfl) dX11_isUnder_53 ?_
    rw [← hQ]
    exact g_zret hx hb hr hlk rfl hS dX11_isUnder_56 (by decide)
  · have hl : lv_has ls 2 [(0, .ref (k0 + 5)), (1, .int 4)] := hl
    refine lv_iload_n hx hb dX11_isUnder_0 rfl (lv_at hl 1 rfl) ?_
    refine lv_tableIn (off := 56) (tgt := 57) hx hb dX11_isUnder_1 (by decide) (by decide) (by decide) (by decide) ?_
    refine lv_aload_n hx hb dX11_isUnder_57 rfl (lv_at hl 0 rfl) ?_
    refine va_instNo (C := RX6) (nm := RX3) hx hb hown (hT _ gk_X11_272) (hE.2.2.2.2.1 (RX6, RX3) (List.mem_of_getElem? (i := 19) rfl)) (va_recv (q := (RX6, TX6, 0)) (ci := 6) hE.2.1 (gP1 (zK 5 _ rfl)) rfl (q0 := 0) rfl) dX11_isUnder_58 ?_
    rw [← hQ]
    exact g_zret hx hb hr hlk rfl hS dX11_isUnder_61 (by decide)
  · have hl : lv_has ls 2 [(0, .ref (k0 + 5)), (1, .int 5)] := hl
    refine lv_iload_n hx hb dX11_isUnder_0 rfl (lv_at hl 1 rfl) ?_
    refine lv_tableIn (off := 61) (tgt := 62) hx hb dX11_isUnder_1 (by decide) (by decide) (by decide) (by decide) ?_
    refine lv_aload_n hx hb dX11_isUnder_62 rfl (lv_at hl 0 rfl) ?_
    refine va_instY (C := RX6) (nm := RX6) hx hb hown (hT _ gk_X11_274) (hE.2.2.2.1 (RX6, RX6) (List.mem_of_getElem? (i := 14) rfl)) (va_recv (q := (RX6, TX6, 0)) (ci := 6) hE.2.1 (gP1 (zK 5 _ rfl)) rfl (q0 := 0) rfl) dX11_isUnder_63 ?_
    rw [← hQ]
    exact g_zret hx hb hr hlk rfl hS dX11_isUnder_66 (by decide)
  · have hl : lv_has ls 2 [(0, .ref (k0 + 5)), (1, .int 6)] := hl
    refine lv_iload_n hx hb dX11_isUnder_0 rfl (lv_at hl 1 rfl) ?_
    refine lv_tableOut (tgt := 67) hx hb dX11_isUnder_1 (by decide) (by decide) ?_
    refine lv_aload_n hx hb dX11_isUnder_67 rfl (lv_at hl 0 rfl) ?_
    refine va_instNo (C := RX6) (nm := RX10) hx hb hown (hT _ gk_X11_276) (hE.2.2.2.2.1 (RX6, RX10) (List.mem_of_getElem? (i := 32) rfl)) (va_recv (q := (RX6, TX6, 0)) (ci := 6) hE.2.1 (gP1 (zK 5 _ rfl)) rfl (q0 := 0) rfl) dX11_isUnder_68 ?_
    rw [← hQ]
    exact g_zret hx hb hr hlk rfl hS dX11_isUnder_71 (by decide)

set_option maxHeartbeats 4000000 in
set_option maxRecDepth 100000 in
theorem c_X11_isUnder_6 (l : Launch) (G : gW) (k0 k : Nat) (hk7 : k < 7) : gCI l yX11_isUnder cX11_isUnder 2 .boolean (gRm 0 0) G [.ref (k0 + 6), .int (nI k)] (fun H => gSg G k0 (gKk G k0) H) (fun r H => r = gB (nI k = nI 6 ∨ nI k = 0 ∨ (nI 6 = 4 ∧ nI k = 1) ∨ (nI 6 = 5 ∧ nI k = 2) ∨ (nI 6 = 6 ∧ nI k = 3))) (fun _ => False) := by
  refine g_start (by decide) (Nat.le_of_ble_eq_true rfl) ?_
  intro pp_ ee_ s mm_ aa_ below meth cc_ ls Q hQ hX hE hP hl
  obtain ⟨hx, hb, hr, hml, hown, hT, hlk, hnm⟩ := hX
  have hK := hE.2.1
  have zK := hP
  have hS : va_S (fun _ => False) s.heap s.heap [] := va_S.rf
  have hl : lv_has ls 2 [(0, .ref (k0 + 6)), (1, .int (nI k))] := hl
  rcases gKd7 hk7 with rfl | rfl | rfl | rfl | rfl | rfl | rfl
  · have hl : lv_has ls 2 [(0, .ref (k0 + 6)), (1, .int 0)] := hl
    refine lv_iload_n hx hb dX11_isUnder_0 rfl (lv_at hl 1 rfl) ?_
    refine lv_tableIn (off := 39) (tgt := 40) hx hb dX11_isUnder_1 (by decide) (by decide) (by decide) (by decide) ?_
    refine lv_iconst (v := 1) hx hb dX11_isUnder_40 (by decide) ?_
    rw [← hQ]
    exact g_zret hx hb hr hlk rfl hS dX11_isUnder_41 (by decide)
  · have hl : lv_has ls 2 [(0, .ref (k0 + 6)), (1, .int 1)] := hl
    refine lv_iload_n hx hb dX11_isUnder_0 rfl (lv_at hl 1 rfl) ?_
    refine lv_tableIn (off := 41) (tgt := 42) hx hb dX11_isUnder_1 (by decide) (by decide) (by decide) (by decide) ?_
    refine lv_aload_n hx hb dX11_isUnder_42 rfl (lv_at hl 0 rfl) ?_
    refine va_instNo (C := RX10) (nm := RX2) hx hb hown (hT _ gk_X11_266) (hE.2.2.2.2.1 (RX10, RX2) (List.mem_of_getElem? (i := 4) rfl)) (va_recv (q := (RX10, TX10, 0)) (ci := 10) hE.2.1 (gP1 (zK 6 _ rfl)) rfl (q0 := 0) rfl) dX11_isUnder_43 ?_
    rw [← hQ]
    exact g_zret hx hb hr hlk rfl hS dX11_isUnder_46 (by decide)
  · have hl : lv_has ls 2 [(0, .ref (k0 + 6)), (1, .int 2)] := hl
    refine lv_iload_n hx hb dX11_isUnder_0 rfl (lv_at hl 1 rfl) ?_
    refine lv_tableIn (off := 46) (tgt := 47) hx hb dX11_isUnder_1 (by decide) (by decide) (by decide) (by decide) ?_
    refine lv_aload_n hx hb dX11_isUnder_47 rfl (lv_at hl 0 rfl) ?_
    refine va_instNo (C := RX10) (nm := RX1) hx hb hown (hT _ gk_X11_268) (hE.2.2.2.2.1 (RX10, RX1) (List.mem_of_getElem? (i := 9) rfl)) (va_recv (q := (RX10, TX10, 0)) (ci := 10) hE.2.1 (gP1 (zK 6 _ rfl)) rfl (q0 := 0) rfl) dX11_isUnder_48 ?_
    rw [← hQ]
    exact g_zret hx hb hr hlk rfl hS dX11_isUnder_51 (by decide)
  · have hl : lv_has ls 2 [(0, .ref (k0 + 6)), (1, .int 3)] := hl
    refine lv_iload_n hx hb dX11_isUnder_0 rfl (lv_at hl 1 rfl) ?_
    refine lv_tableIn (off := 51) (tgt := 52) hx hb dX11_isUnder_1 (by decide) (by decide) (by decide) (by decide) ?_
    refine lv_aload_n hx hb dX11_isUnder_52 rfl (lv_at hl 0 rfl) ?_
    refine va_instY (C := RX10) (nm := RX4) hx hb hown (hT _ gk_X11_270) (hE.2.2.2.1 (RX10, RX4) (List.mem_of_getElem? (i := 12) rfl)) (va_recv (q := (RX10, TX10, 0)) (ci := 10) hE.2.1 (gP1 (zK 6 _ rfl)) rfl (q0 := 0) rfl) dX11_isUnder_53 ?_
    rw [← hQ]
    exact g_zret hx hb hr hlk rfl hS dX11_isUnder_56 (by decide)
  · have hl : lv_has ls 2 [(0, .ref (k0 + 6)), (1, .int 4)] := hl
    refine lv_iload_n hx hb dX11_isUnder_0 rfl (lv_at hl 1 rfl) ?_
    refine lv_tableIn (off := 56) (tgt := 57) hx hb dX11_isUnder_1 (by decide) (by decide) (by decide) (by decide) ?_
    refine lv_aload_n hx hb dX11_isUnder_57 rfl (lv_at hl 0 rfl) ?_
    refine va_instNo (C := RX10) (nm := RX3) hx hb hown (hT _ gk_X11_272) (hE.2.2.2.2.1 (RX10, RX3) (List.mem_of_getElem? (i := 20) rfl)) (va_recv (q := (RX10, TX10, 0)) (ci := 10) hE.2.1 (gP1 (zK 6 _ rfl)) rfl (q0 := 0) rfl) dX11_isUnder_58 ?_
    rw [← hQ]
    exact g_zret hx hb hr hlk rfl hS dX11_isUnder_61 (by decide)
  · have hl : lv_has ls 2 [(0, .ref (k0 + 6)), (1, .int 5)] := hl
    refine lv_iload_n hx hb dX11_isUnder_0 rfl (lv_at hl 1 rfl) ?_
    refine lv_tableIn (off := 61) (tgt := 62) hx hb dX11_isUnder_1 (by decide) (by decide) (by decide) (by decide) ?_
    refine lv_aload_n hx hb dX11_isUnder_62 rfl (lv_at hl 0 rfl) ?_
    refine va_instNo (C := RX10) (nm := RX6) hx hb hown (hT _ gk_X11_274) (hE.2.2.2.2.1 (RX10, RX6) (List.mem_of_getElem? (i := 26) rfl)) (va_recv (q := (RX10, TX10, 0)) (ci := 10) hE.2.1 (gP1 (zK 6 _ rfl)) rfl (q0 := 0) rfl) dX11_isUnder_63 ?_
    rw [← hQ]
    exact g_zret hx hb hr hlk rfl hS dX11_isUnder_66 (by decide)
  · have hl : lv_has ls 2 [(0, .ref (k0 + 6)), (1, .int 6)] := hl
    refine lv_iload_n hx hb dX11_isUnder_0 rfl (lv_at hl 1 rfl) ?_
    refine lv_tableOut (tgt := 67) hx hb dX11_isUnder_1 (by decide) (by decide) ?_
    refine lv_aload_n hx hb dX11_isUnder_67 rfl (lv_at hl 0 rfl) ?_
    refine va_instY (C := RX10) (nm := RX10) hx hb hown (hT _ gk_X11_276) (hE.2.2.2.1 (RX10, RX10) (List.mem_of_getElem? (i := 15) rfl)) (va_recv (q := (RX10, TX10, 0)) (ci := 10) hE.2.1 (gP1 (zK 6 _ rfl)) rfl (q0 := 0) rfl) dX11_isUnder_68 ?_
    rw [← hQ]
    exact g_zret hx hb hr hlk rfl hS dX11_isUnder_71 (by decide)

set_option maxHeartbeats 4000000 in
set_option maxRecDepth 100000 in
theorem c_X11_taken (l : Launch) (G : gW) (B lp : Nat) (π πk f μ α : gPS) (lk : Nat) (g : Nat → Int64) (acc : List (Nat × Nat × List Nat)) (hcl : gClo f acc) (hI : gInv π) (hlp : lp = B + 23 ∨ lp = B + 58 ∨ lp = B + 93 ∨ (B + 120 ≤ lp ∧ lp + 6 ≤ B + 156)) (p k : Int32) : gCI l yX11_taken cX11_taken 4 .int (gRm 1 40) G [.ref B, .int p, .int k] (fun H => gCW G B lp π lk πk f μ α g H) (fun r H => r = gqTaken π p k ∧ gCW G B lp π lk πk f μ α g H) (fun q => (lp ≤ q ∧ q < lp + 6) ∨ (B ≤ q ∧ q < B + 23) ∨ (B + 36 ≤ q ∧ q < B + 58) ∨ (B + 71 ≤ q ∧ q < B + 93) ∨ (B + 106 ≤ q ∧ q < B + 120)) := by
  refine g_start (by decide) (Nat.le_of_ble_eq_true rfl) ?_
  intro pp_ ee_ s mm_ aa_ below meth cc_ ls Q hQ hX hE hP hl
  obtain ⟨hx, hb, hr, hml, hown, hT, hlk, hnm⟩ := hX
  have hK := hE.2.1
  obtain ⟨ρ, hrr, zO, h1, hk7, ⟨s4, h2⟩, ⟨πt, lt, ρt, zT⟩, zKT, ⟨ρk, hrk, zE⟩, zB, zF, ⟨γ, zN⟩, zA, zP, zG⟩ := hP
  have hS : va_S (fun q => (lp ≤ q ∧ q < lp + 6) ∨ (B ≤ q ∧ q < B + 23) ∨ (B + 36 ≤ q ∧ q < B + 58) ∨ (B + 71 ≤ q ∧ q < B + 93) ∨ (B + 106 ≤ q ∧ q < B + 120)) s.heap s.heap [] := va_S.rf
  have hl : lv_has ls 4 [(0, .ref B), (1, .int p), (2, .int k)] := hl
  obtain ⟨⟨n, hn, hz, h0z⟩, hki, ⟨sn, hsn, hz3, hsp⟩, ⟨pn, hpn, hz4, hpo⟩, ⟨bn, hbn, hz5, hbo⟩, hfl9⟩ := id hI
  have hd1 : lp + 6 ≤ B + 1 ∨ lp = B + 1 + 22 ∨ B + 1 + 35 ≤ lp := by omega
  have hd36 : lp + 6 ≤ B + 36 ∨ lp = B + 36 + 22 ∨ B + 36 + 35 ≤ lp := by omega
  refine lv_iload_n hx hb dX11_taken_0 rfl (lv_at hl 2 rfl) ?_
  refine lv_bipush (v := 6) hx hb dX11_taken_1 (by decide) ?_
  refine g_ki (g_runS (rest := []) hx hb hml hown hE hT (c_X11_isUpTo l G k 6) gM_X11_isUpTo gm_X11_57 gt_X11_isUpTo trivial rfl hl.1 ⟨rfl, rfl⟩ ⟨Nat.le_of_ble_eq_true rfl, Nat.le_of_ble_eq_true rfl⟩ ⟨Nat.zero_le _, Nat.zero_le _⟩ rfl (Nat.le_of_ble_eq_true rfl) dX11_taken_3) hS (fun _ h => h.elim) (fun r4 H1 locs q2 k3 hS => ?_)
  subst q2
  have zO := gSg_free zO k3 (by intro k hk q; simp only [List.length_cons, List.length_nil] at hk; omega)
  have h1 := gSg_free h1 k3 (by intro k hk q; simp only [List.length_cons, List.length_nil] at hk; omega)
  have hk7 := gSg_free hk7 k3 (by intro k hk q; simp only [List.length_cons, List.length_nil] at hk; omega)
  have h2 := gSg_free h2 k3 (by intro k hk q; simp only [List.length_cons, List.length_nil] at hk; omega)
  have zT := gSg_free zT k3 (by intro k hk q; simp only [List.length_cons, List.length_nil] at hk; omega)
  have zKT := gSg_free zKT k3 (by intro k hk q; simp only [List.length_cons, List.length_nil] at hk; omega)
  have zE := gSg_free zE k3 (by intro k hk q; simp only [List.length_cons, List.length_nil] at hk; omega)
  have zB := gSg_free zB k3 (by intro k hk q; simp only [List.length_cons, List.length_nil] at hk; omega)
  have zF := gSg_free zF k3 (by intro k hk q; simp only [List.length_cons, List.length_nil] at hk; omega)
  have zN := gSg_free zN k3 (by intro k hk q; simp only [List.length_cons, List.length_nil] at hk; omega)
  have zA := gSg_free zA k3 (by intro k hk q; simp only [List.length_cons, List.length_nil] at hk; omega)
  have zP := gSg_free zP k3 (by intro k hk q; simp only [List.length_cons, List.length_nil] at hk; omega)
  have zG := gRows_free zG k3 (by intro k hk q; omega)
  refine lv_if_ne (tgt := 12) hx hb dX11_taken_6 (by decide) (fun c5 => ?_) (fun c5 => ?_)
  · have c5 : 0 ≤ k ∧ k ≤ 6 := gB_1.mp c5
    obtain ⟨i, hi, ei⟩ := gIw (M := 6) (n := 6) rfl (by decide) c5
    subst ei
    refine lv_aload_n hx hb dX11_taken_12 rfl (lv_at hl 0 rfl) ?_
    refine lv_iload_n hx hb dX11_taken_13 rfl (lv_at hl 1 rfl) ?_
    refine g_ki (g_runV (T := TX11) (ci := 11) (N := 13) (rest := []) hx hb hml hown hE hT (c_X11_isPigeon l G B lp π ρ μ n hz (by omega) p) gM_X11_isPigeon gm_X11_69 gi_X11_isPigeon gs_RX11_yX11_isPigeon_yX11_isPigeon rfl (zO 0 _ rfl) ⟨zO, h1⟩ rfl hl.1 ⟨rfl, rfl⟩ ⟨Nat.le_of_ble_eq_true rfl, Nat.le_of_ble_eq_true rfl⟩ ⟨Nat.zero_le _, Nat.zero_le _⟩ rfl (Nat.le_of_ble_eq_true rfl) dX11_taken_14) hS (fun _ h => h.elim) (fun r9 H6 locs q7 k8 hS => ?_)
    subst q7
    have zO := gSg_free zO k8 (by intro k hk q; simp only [List.length_cons, List.length_nil] at hk; omega)
    have h1 := gSg_free h1 k8 (by intro k hk q; simp only [List.length_cons, List.length_nil] at hk; omega)
    have hk7 := gSg_free hk7 k8 (by intro k hk q; simp only [List.length_cons, List.length_nil] at hk; omega)
    have h2 := gSg_free h2 k8 (by intro k hk q; simp only [List.length_cons, List.length_nil] at hk; omega)
    have zT := gSg_free zT k8 (by intro k hk q; simp only [List.length_cons, List.length_nil] at hk; omega)
    have zKT := gSg_free zKT k8 (by intro k hk q; simp only [List.length_cons, List.length_nil] at hk; omega)
    have zE := gSg_free zE k8 (by intro k hk q; simp only [List.length_cons, List.length_nil] at hk; omega)
    have zB := gSg_free zB k8 (by intro k hk q; simp only [List.length_cons, List.length_nil] at hk; omega)
    have zF := gSg_free zF k8 (by intro k hk q; simp only [List.length_cons, List.length_nil] at hk; omega)
    have zN := gSg_free zN k8 (by intro k hk q; simp only [List.length_cons, List.length_nil] at hk; omega)
    have zA := gSg_free zA k8 (by intro k hk q; simp only [List.length_cons, List.length_nil] at hk; omega)
    have zP := gSg_free zP k8 (by intro k hk q; simp only [List.length_cons, List.length_nil] at hk; omega)
    have zG := gRows_free zG k8 (by intro k hk q; omega)
    refine lv_if_ne (tgt := 23) hx hb dX11_taken_17 (by decide) (fun c10 => ?_) (fun c10 => ?_)
    · have c10 : 0 ≤ p ∧ p < π 15 0 := gB_1.mp c10
      obtain ⟨j, hj, ej⟩ := gIx hz (by omega) c10
      subst ej
      obtain ⟨kd, hkd, ek⟩ := hki j (by omega)
      rcases gKd7 hkd with rfl | rfl | rfl | rfl | rfl | rfl | rfl
      · refine lv_aload_n hx hb dX11_taken_23 rfl (lv_at hl 0 rfl) ?_
        refine g_get (v := .ref (B + 1)) (T := TX11) (ci := 11) (N := 13) hx hb hown hK (gY_X11 hT) rfl (zO 0 _ rfl) 0 (by decide) (hT _ gf_X11_12) rfl dX11_taken_24 ?_
        refine g_get (v := .ref (B + 1 + 4)) (T := TX9) (ci := 9) (N := 16) hx hb hown hK (gY_X9 hT) rfl (h1 0 _ rfl) 3 (by decide) (hT _ gf_X11_73) rfl dX11_taken_27 ?_
        refine lv_iload_n hx hb dX11_taken_30 rfl (lv_at hl 1 rfl) ?_
        refine g_ia (j := j) (v := π 2 j) hx hb hK (h1 4 _ rfl) rfl (by omega) (Nat.le_of_ble_eq_true rfl) rfl dX11_taken_31 ?_
        refine lv_istore_n (lv' := [(3, .int (π 2 j)), (0, .ref B), (1, .int (nI j)), (2, .int (nI i))]) hx hb dX11_taken_32 rfl hl (by decide) rfl (fun ls hl => ?_)
        refine lv_aload_n hx hb dX11_taken_33 rfl (lv_at hl 1 rfl) ?_
        refine g_get (v := .ref (B + 1)) (T := TX11) (ci := 11) (N := 13) hx hb hown hK (gY_X11 hT) rfl (zO 0 _ rfl) 0 (by decide) (hT _ gf_X11_12) rfl dX11_taken_34 ?_
        refine g_get (v := .ref (B + 1 + 1)) (T := TX9) (ci := 9) (N := 16) hx hb hown hK (gY_X9 hT) rfl (h1 0 _ rfl) 0 (by decide) (hT _ gf_X11_230) rfl dX11_taken_37 ?_
        refine lv_iload_n hx hb dX11_taken_40 rfl (lv_at hl 0 rfl) ?_
        refine g_aa5 (j := 0) (v := .ref (B + 1 + 28 + 0)) hx hb hK (h1 1 _ rfl) ek (by omega) (Nat.le_of_ble_eq_true rfl) rfl dX11_taken_41 ?_
        refine lv_iload_n hx hb dX11_taken_42 rfl (lv_at hl 3 rfl) ?_
        refine g_ki (g_runS (rest := []) hx hb hml hown hE hT (c_X11_isUnder_0 l G (B + 1 + 28) i (by omega)) gM_X11_isUnder gm_X11_252 gt_X11_isUnder hk7 rfl hl.1 ⟨rfl, rfl⟩ ⟨Nat.le_of_ble_eq_true rfl, Nat.le_of_ble_eq_true rfl⟩ ⟨Nat.zero_le _, Nat.zero_le _⟩ rfl (Nat.le_of_ble_eq_true rfl) dX11_taken_43) hS (fun _ h => h.elim) (fun r14 H11 locs q12 k13 hS => ?_)
        subst q12
        have zO := gSg_free zO k13 (by intro k hk q; simp only [List.length_cons, List.length_nil] at hk; omega)
        have h1 := gSg_free h1 k13 (by intro k hk q; simp only [List.length_cons, List.length_nil] at hk; omega)
        have hk7 := gSg_free hk7 k13 (by intro k hk q; simp only [List.length_cons, List.length_nil] at hk; omega)
        have h2 := gSg_free h2 k13 (by intro k hk q; simp only [List.length_cons, List.length_nil] at hk; omega)
        have zT := gSg_free zT k13 (by intro k hk q; simp only [List.length_cons, List.length_nil] at hk; omega)
        have zKT := gSg_free zKT k13 (by intro k hk q; simp only [List.length_cons, List.length_nil] at hk; omega)
        have zE := gSg_free zE k13 (by intro k hk q; simp only [List.length_cons, List.length_nil] at hk; omega)
        have zB := gSg_free zB k13 (by intro k hk q; simp only [List.length_cons, List.length_nil] at hk; omega)
        have zF := gSg_free zF k13 (by intro k hk q; simp only [List.length_cons, List.length_nil] at hk; omega)
        have zN := gSg_free zN k13 (by intro k hk q; simp only [List.length_cons, List.length_nil] at hk; omega)
        have zA := gSg_free zA k13 (by intro k hk q; simp only [List.length_cons, List.length_nil] at hk; omega)
        have zP := gSg_free zP k13 (by intro k hk q; simp only [List.length_cons, List.length_nil] at hk; omega)
        have zG := gRows_free zG k13 (by intro k hk q; omega)
        refine lv_if_eq (tgt := 53) hx hb dX11_taken_46 (by decide) (fun c15 => ?_) (fun c15 => ?_)
        · have c15 : ¬ (nI i = nI 0 ∨ nI i = 0 ∨ (nI 0 = 4 ∧ nI i = 1) ∨ (nI 0 = 5 ∧ nI i = 2) ∨ (nI 0 = 6 ∧ nI i = 3)) := gB_0.mp c15
          refine lv_bipush (v := (-12)) hx hb dX11_taken_53 (by decide) ?_
          rw [← hQ]
          exact g_iret hx hb hr hlk hS dX11_taken_55 ⟨by rw [gqTaken, if_pos c5, if_pos c10, nI_clamp (show j < 2 ^ 31 by omega), ek, if_neg c15], _, hrr, zO, h1, hk7, ⟨_, h2⟩, ⟨_, _, _, zT⟩, zKT, ⟨_, hrk, zE⟩, zB, zF, ⟨_, zN⟩, zA, zP, zG⟩
        · have c15 : nI i = nI 0 ∨ nI i = 0 ∨ (nI 0 = 4 ∧ nI i = 1) ∨ (nI 0 = 5 ∧ nI i = 2) ∨ (nI 0 = 6 ∧ nI i = 3) := gB_1.mp c15
          refine lv_iload_n hx hb dX11_taken_49 rfl (lv_at hl 0 rfl) ?_
          refine lv_goto (tgt := 55) hx hb dX11_taken_50 (by decide) ?_
          rw [← hQ]
          exact g_iret hx hb hr hlk hS dX11_taken_55 ⟨by rw [gqTaken, if_pos c5, if_pos c10, nI_clamp (show j < 2 ^ 31 by omega), ek, if_pos c15], _, hrr, zO, h1, hk7, ⟨_, h2⟩, ⟨_, _, _, zT⟩, zKT, ⟨_, hrk, zE⟩, zB, zF, ⟨_, zN⟩, zA, zP, zG⟩
      · refine lv_aload_n hx hb dX11_taken_23 rfl (lv_at hl 0 rfl) ?_
        refine g_get (v := .ref (B + 1)) (T := TX11) (ci := 11) (N := 13) hx hb hown hK (gY_X11 hT) rfl (zO 0 _ rfl) 0 (by decide) (hT _ gf_X11_12) rfl dX11_taken_24 ?_
        refine g_get (v := .ref (B + 1 + 4)) (T := TX9) (ci := 9) (N := 16) hx hb hown hK (gY_X9 hT) rfl (h1 0 _ rfl) 3 (by decide) (hT _ gf_X11_73) rfl dX11_taken_27 ?_
        refine lv_iload_n hx hb dX11_taken_30 rfl (lv_at hl 1 rfl) ?_
        refine g_ia (j := j) (v := π 2 j) hx hb hK (h1 4 _ rfl) rfl (by omega) (Nat.le_of_ble_eq_true rfl) rfl dX11_taken_31 ?_
        refine lv_istore_n (lv' := [(3, .int (π 2 j)), (0, .ref B), (1, .int (nI j)), (2, .int (nI i))]) hx hb dX11_taken_32 rfl hl (by decide) rfl (fun ls hl => ?_)
        refine lv_aload_n hx hb dX11_taken_33 rfl (lv_at hl 1 rfl) ?_
        refine g_get (v := .ref (B + 1)) (T := TX11) (ci := 11) (N := 13) hx hb hown hK (gY_X11 hT) rfl (zO 0 _ rfl) 0 (by decide) (hT _ gf_X11_12) rfl dX11_taken_34 ?_
        refine g_get (v := .ref (B + 1 + 1)) (T := TX9) (ci := 9) (N := 16) hx hb hown hK (gY_X9 hT) rfl (h1 0 _ rfl) 0 (by decide) (hT _ gf_X11_230) rfl dX11_taken_37 ?_
        refine lv_iload_n hx hb dX11_taken_40 rfl (lv_at hl 0 rfl) ?_
        refine g_aa5 (j := 1) (v := .ref (B + 1 + 28 + 1)) hx hb hK (h1 1 _ rfl) ek (by omega) (Nat.le_of_ble_eq_true rfl) rfl dX11_taken_41 ?_
        refine lv_iload_n hx hb dX11_taken_42 rfl (lv_at hl 3 rfl) ?_
        refine g_ki (g_runS (rest := []) hx hb hml hown hE hT (c_X11_isUnder_1 l G (B + 1 + 28) i (by omega)) gM_X11_isUnder gm_X11_252 gt_X11_isUnder hk7 rfl hl.1 ⟨rfl, rfl⟩ ⟨Nat.le_of_ble_eq_true rfl, Nat.le_of_ble_eq_true rfl⟩ ⟨Nat.zero_le _, Nat.zero_le _⟩ rfl (Nat.le_of_ble_eq_true rfl) dX11_taken_43) hS (fun _ h => h.elim) (fun r19 H16 locs q17 k18 hS => ?_)
        subst q17
        have zO := gSg_free zO k18 (by intro k hk q; simp only [List.length_cons, List.length_nil] at hk; omega)
        have h1 := gSg_free h1 k18 (by intro k hk q; simp only [List.length_cons, List.length_nil] at hk; omega)
        have hk7 := gSg_free hk7 k18 (by intro k hk q; simp only [List.length_cons, List.length_nil] at hk; omega)
        have h2 := gSg_free h2 k18 (by intro k hk q; simp only [List.length_cons, List.length_nil] at hk; omega)
        have zT := gSg_free zT k18 (by intro k hk q; simp only [List.length_cons, List.length_nil] at hk; omega)
        have zKT := gSg_free zKT k18 (by intro k hk q; simp only [List.length_cons, List.length_nil] at hk; omega)
        have zE := gSg_free zE k18 (by intro k hk q; simp only [List.length_cons, List.length_nil] at hk; omega)
        have zB := gSg_free zB k18 (by intro k hk q; simp only [List.length_cons, List.length_nil] at hk; omega)
        have zF := gSg_free zF k18 (by intro k hk q; simp only [List.length_cons, List.length_nil] at hk; omega)
        have zN := gSg_free zN k18 (by intro k hk q; simp only [List.length_cons, List.length_nil] at hk; omega)
        have zA := gSg_free zA k18 (by intro k hk q; simp only [List.length_cons, List.length_nil] at hk; omega)
        have zP := gSg_free zP k18 (by intro k hk q; simp only [List.length_cons, List.length_nil] at hk; omega)
        have zG := gRows_free zG k18 (by intro k hk q; omega)
        refine lv_if_eq (tgt := 53) hx hb dX11_taken_46 (by decide) (fun c20 => ?_) (fun c20 => ?_)
        · have c20 : ¬ (nI i = nI 1 ∨ nI i = 0 ∨ (nI 1 = 4 ∧ nI i = 1) ∨ (nI 1 = 5 ∧ nI i = 2) ∨ (nI 1 = 6 ∧ nI i = 3)) := gB_0.mp c20
          refine lv_bipush (v := (-12)) hx hb dX11_taken_53 (by decide) ?_
          rw [← hQ]
          exact g_iret hx hb hr hlk hS dX11_taken_55 ⟨by rw [gqTaken, if_pos c5, if_pos c10, nI_clamp (show j < 2 ^ 31 by omega), ek, if_neg c20], _, hrr, zO, h1, hk7, ⟨_, h2⟩, ⟨_, _, _, zT⟩, zKT, ⟨_, hrk, zE⟩, zB, zF, ⟨_, zN⟩, zA, zP, zG⟩
        · have c20 : nI i = nI 1 ∨ nI i = 0 ∨ (nI 1 = 4 ∧ nI i = 1) ∨ (nI 1 = 5 ∧ nI i = 2) ∨ (nI 1 = 6 ∧ nI i = 3) := gB_1.mp c20
          refine lv_iload_n hx hb dX11_taken_49 rfl (lv_at hl 0 rfl) ?_
          refine lv_goto (tgt := 55) hx hb dX11_taken_50 (by decide) ?_
          rw [← hQ]
          exact g_iret hx hb hr hlk hS dX11_taken_55 ⟨by rw [gqTaken, if_pos c5, if_pos c10, nI_clamp (show j < 2 ^ 31 by omega), ek, if_pos c20], _, hrr, zO, h1, hk7, ⟨_, h2⟩, ⟨_, _, _, zT⟩, zKT, ⟨_, hrk, zE⟩, zB, zF, ⟨_, zN⟩, zA, zP, zG⟩
      · refine lv_aload_n hx hb dX11_taken_23 rfl (lv_at hl 0 rfl) ?_
        refine g_get (v := .ref (B + 1)) (T := TX11) (ci := 11) (N := 13) hx hb hown hK (gY_X11 hT) rfl (zO 0 _ rfl) 0 (by decide) (hT _ gf_X11_12) rfl dX11_taken_24 ?_
        refine g_get (v := .ref (B + 1 + 4)) (T := TX9) (ci := 9) (N := 16) hx hb hown hK (gY_X9 hT) rfl (h1 0 _ rfl) 3 (by decide) (hT _ gf_X11_73) rfl dX11_taken_27 ?_
        refine lv_iload_n hx hb dX11_taken_30 rfl (lv_at hl 1 rfl) ?_
        refine g_ia (j := j) (v := π 2 j) hx hb hK (h1 4 _ rfl) rfl (by omega) (Nat.le_of_ble_eq_true rfl) rfl dX11_taken_31 ?_
        refine lv_istore_n (lv' := [(3, .int (π 2 j)), (0, .ref B), (1, .int (nI j)), (2, .int (nI i))]) hx hb dX11_taken_32 rfl hl (by decide) rfl (fun ls hl => ?_)
        refine lv_aload_n hx hb dX11_taken_33 rfl (lv_at hl 1 rfl) ?_
        refine g_get (v := .ref (B + 1)) (T := TX11) (ci := 11) (N := 13) hx hb hown hK (gY_X11 hT) rfl (zO 0 _ rfl) 0 (by decide) (hT _ gf_X11_12) rfl dX11_taken_34 ?_
        refine g_get (v := .ref (B + 1 + 1)) (T := TX9) (ci := 9) (N := 16) hx hb hown hK (gY_X9 hT) rfl (h1 0 _ rfl) 0 (by decide) (hT _ gf_X11_230) rfl dX11_taken_37 ?_
        refine lv_iload_n hx hb dX11_taken_40 rfl (lv_at hl 0 rfl) ?_
        refine g_aa5 (j := 2) (v := .ref (B + 1 + 28 + 2)) hx hb hK (h1 1 _ rfl) ek (by omega) (Nat.le_of_ble_eq_true rfl) rfl dX11_taken_41 ?_
        refine lv_iload_n hx hb dX11_taken_42 rfl (lv_at hl 3 rfl) ?_
        refine g_ki (g_runS (rest := []) hx hb hml hown hE hT (c_X11_isUnder_2 l G (B + 1 + 28) i (by omega)) gM_X11_isUnder gm_X11_252 gt_X11_isUnder hk7 rfl hl.1 ⟨rfl, rfl⟩ ⟨Nat.le_of_ble_eq_true rfl, Nat.le_of_ble_eq_true rfl⟩ ⟨Nat.zero_le _, Nat.zero_le _⟩ rfl (Nat.le_of_ble_eq_true rfl) dX11_taken_43) hS (fun _ h => h.elim) (fun r24 H21 locs q22 k23 hS => ?_)
        subst q22
        have zO := gSg_free zO k23 (by intro k hk q; simp only [List.length_cons, List.length_nil] at hk; omega)
        have h1 := gSg_free h1 k23 (by intro k hk q; simp only [List.length_cons, List.length_nil] at hk; omega)
        have hk7 := gSg_free hk7 k23 (by intro k hk q; simp only [List.length_cons, List.length_nil] at hk; omega)
        have h2 := gSg_free h2 k23 (by intro k hk q; simp only [List.length_cons, List.length_nil] at hk; omega)
        have zT := gSg_free zT k23 (by intro k hk q; simp only [List.length_cons, List.length_nil] at hk; omega)
        have zKT := gSg_free zKT k23 (by intro k hk q; simp only [List.length_cons, List.length_nil] at hk; omega)
        have zE := gSg_free zE k23 (by intro k hk q; simp only [List.length_cons, List.length_nil] at hk; omega)
        have zB := gSg_free zB k23 (by intro k hk q; simp only [List.length_cons, List.length_nil] at hk; omega)
        have zF := gSg_free zF k23 (by intro k hk q; simp only [List.length_cons, List.length_nil] at hk; omega)
        have zN := gSg_free zN k23 (by intro k hk q; simp only [List.length_cons, List.length_nil] at hk; omega)
        have zA := gSg_free zA k23 (by intro k hk q; simp only [List.length_cons, List.length_nil] at hk; omega)
        have zP := gSg_free zP k23 (by intro k hk q; simp only [List.length_cons, List.length_nil] at hk; omega)
        have zG := gRows_free zG k23 (by intro k hk q; omega)
        refine lv_if_eq (tgt := 53) hx hb dX11_taken_46 (by decide) (fun c25 => ?_) (fun c25 => ?_)
        · have c25 : ¬ (nI i = nI 2 ∨ nI i = 0 ∨ (nI 2 = 4 ∧ nI i = 1) ∨ (nI 2 = 5 ∧ nI i = 2) ∨ (nI 2 = 6 ∧ nI i = 3)) := gB_0.mp c25
          refine lv_bipush (v := (-12)) hx hb dX11_taken_53 (by decide) ?_
          rw [← hQ]
          exact g_iret hx hb hr hlk hS dX11_taken_55 ⟨by rw [gqTaken, if_pos c5, if_pos c10, nI_clamp (show j < 2 ^ 31 by omega), ek, if_neg c25], _, hrr, zO, h1, hk7, ⟨_, h2⟩, ⟨_, _, _, zT⟩, zKT, ⟨_, hrk, zE⟩, zB, zF, ⟨_, zN⟩, zA, zP, zG⟩
        · have c25 : nI i = nI 2 ∨ nI i = 0 ∨ (nI 2 = 4 ∧ nI i = 1) ∨ (nI 2 = 5 ∧ nI i = 2) ∨ (nI 2 = 6 ∧ nI i = 3) := gB_1.mp c25
          refine lv_iload_n hx hb dX11_taken_49 rfl (lv_at hl 0 rfl) ?_
          refine lv_goto (tgt := 55) hx hb dX11_taken_50 (by decide) ?_
          rw [← hQ]
          exact g_iret hx hb hr hlk hS dX11_taken_55 ⟨by rw [gqTaken, if_pos c5, if_pos c10, nI_clamp (show j < 2 ^ 31 by omega), ek, if_pos c25], _, hrr, zO, h1, hk7, ⟨_, h2⟩, ⟨_, _, _, zT⟩, zKT, ⟨_, hrk, zE⟩, zB, zF, ⟨_, zN⟩, zA, zP, zG⟩
      · refine lv_aload_n hx hb dX11_taken_23 rfl (lv_at hl 0 rfl) ?_
        refine g_get (v := .ref (B + 1)) (T := TX11) (ci := 11) (N := 13) hx hb hown hK (gY_X11 hT) rfl (zO 0 _ rfl) 0 (by decide) (hT _ gf_X11_12) rfl dX11_taken_24 ?_
        refine g_get (v := .ref (B + 1 + 4)) (T := TX9) (ci := 9) (N := 16) hx hb hown hK (gY_X9 hT) rfl (h1 0 _ rfl) 3 (by decide) (hT _ gf_X11_73) rfl dX11_taken_27 ?_
        refine lv_iload_n hx hb dX11_taken_30 rfl (lv_at hl 1 rfl) ?_
        refine g_ia (j := j) (v := π 2 j) hx hb hK (h1 4 _ rfl) rfl (by omega) (Nat.le_of_ble_eq_true rfl) rfl dX11_taken_31 ?_
        refine lv_istore_n (lv' := [(3, .int (π 2 j)), (0, .ref B), (1, .int (nI j)), (2, .int (nI i))]) hx hb dX11_taken_32 rfl hl (by decide) rfl (fun ls hl => ?_)
        refine lv_aload_n hx hb dX11_taken_33 rfl (lv_at hl 1 rfl) ?_
        refine g_get (v := .ref (B + 1)) (T := TX11) (ci := 11) (N := 13) hx hb hown hK (gY_X11 hT) rfl (zO 0 _ rfl) 0 (by decide) (hT _ gf_X11_12) rfl dX11_taken_34 ?_
        refine g_get (v := .ref (B + 1 + 1)) (T := TX9) (ci := 9) (N := 16) hx hb hown hK (gY_X9 hT) rfl (h1 0 _ rfl) 0 (by decide) (hT _ gf_X11_230) rfl dX11_taken_37 ?_
        refine lv_iload_n hx hb dX11_taken_40 rfl (lv_at hl 0 rfl) ?_
        refine g_aa5 (j := 3) (v := .ref (B + 1 + 28 + 3)) hx hb hK (h1 1 _ rfl) ek (by omega) (Nat.le_of_ble_eq_true rfl) rfl dX11_taken_41 ?_
        refine lv_iload_n hx hb dX11_taken_42 rfl (lv_at hl 3 rfl) ?_
        refine g_ki (g_runS (rest := []) hx hb hml hown hE hT (c_X11_isUnder_3 l G (B + 1 + 28) i (by omega)) gM_X11_isUnder gm_X11_252 gt_X11_isUnder hk7 rfl hl.1 ⟨rfl, rfl⟩ ⟨Nat.le_of_ble_eq_true rfl, Nat.le_of_ble_eq_true rfl⟩ ⟨Nat.zero_le _, Nat.zero_le _⟩ rfl (Nat.le_of_ble_eq_true rfl) dX11_taken_43) hS (fun _ h => h.elim) (fun r29 H26 locs q27 k28 hS => ?_)
        subst q27
        have zO := gSg_free zO k28 (by intro k hk q; simp only [List.length_cons, List.length_nil] at hk; omega)
        have h1 := gSg_free h1 k28 (by intro k hk q; simp only [List.length_cons, List.length_nil] at hk; omega)
        have hk7 := gSg_free hk7 k28 (by intro k hk q; simp only [List.length_cons, List.length_nil] at hk; omega)
        have h2 := gSg_free h2 k28 (by intro k hk q; simp only [List.length_cons, List.length_nil] at hk; omega)
        have zT := gSg_free zT k28 (by intro k hk q; simp only [List.length_cons, List.length_nil] at hk; omega)
        have zKT := gSg_free zKT k28 (by intro k hk q; simp only [List.length_cons, List.length_nil] at hk; omega)
        have zE := gSg_free zE k28 (by intro k hk q; simp only [List.length_cons, List.length_nil] at hk; omega)
        have zB := gSg_free zB k28 (by intro k hk q; simp only [List.length_cons, List.length_nil] at hk; omega)
        have zF := gSg_free zF k28 (by intro k hk q; simp only [List.length_cons, List.length_nil] at hk; omega)
        have zN := gSg_free zN k28 (by intro k hk q; simp only [List.length_cons, List.length_nil] at hk; omega)
        have zA := gSg_free zA k28 (by intro k hk q; simp only [List.length_cons, List.length_nil] at hk; omega)
        have zP := gSg_free zP k28 (by intro k hk q; simp only [List.length_cons, List.length_nil] at hk; omega)
        have zG := gRows_free zG k28 (by intro k hk q; omega)
        refine lv_if_eq (tgt := 53) hx hb dX11_taken_46 (by decide) (fun c30 => ?_) (fun c30 => ?_)
        · have c30 : ¬ (nI i = nI 3 ∨ nI i = 0 ∨ (nI 3 = 4 ∧ nI i = 1) ∨ (nI 3 = 5 ∧ nI i = 2) ∨ (nI 3 = 6 ∧ nI i = 3)) := gB_0.mp c30
          refine lv_bipush (v := (-12)) hx hb dX11_taken_53 (by decide) ?_
          rw [← hQ]
          exact g_iret hx hb hr hlk hS dX11_taken_55 ⟨by rw [gqTaken, if_pos c5, if_pos c10, nI_clamp (show j < 2 ^ 31 by omega), ek, if_neg c30], _, hrr, zO, h1, hk7, ⟨_, h2⟩, ⟨_, _, _, zT⟩, zKT, ⟨_, hrk, zE⟩, zB, zF, ⟨_, zN⟩, zA, zP, zG⟩
        · have c30 : nI i = nI 3 ∨ nI i = 0 ∨ (nI 3 = 4 ∧ nI i = 1) ∨ (nI 3 = 5 ∧ nI i = 2) ∨ (nI 3 = 6 ∧ nI i = 3) := gB_1.mp c30
          refine lv_iload_n hx hb dX11_taken_49 rfl (lv_at hl 0 rfl) ?_
          refine lv_goto (tgt := 55) hx hb dX11_taken_50 (by decide) ?_
          rw [← hQ]
          exact g_iret hx hb hr hlk hS dX11_taken_55 ⟨by rw [gqTaken, if_pos c5, if_pos c10, nI_clamp (show j < 2 ^ 31 by omega), ek, if_pos c30], _, hrr, zO, h1, hk7, ⟨_, h2⟩, ⟨_, _, _, zT⟩, zKT, ⟨_, hrk, zE⟩, zB, zF, ⟨_, zN⟩, zA, zP, zG⟩
      · refine lv_aload_n hx hb dX11_taken_23 rfl (lv_at hl 0 rfl) ?_
        refine g_get (v := .ref (B + 1)) (T := TX11) (ci := 11) (N := 13) hx hb hown hK (gY_X11 hT) rfl (zO 0 _ rfl) 0 (by decide) (hT _ gf_X11_12) rfl dX11_taken_24 ?_
        refine g_get (v := .ref (B + 1 + 4)) (T := TX9) (ci := 9) (N := 16) hx hb hown hK (gY_X9 hT) rfl (h1 0 _ rfl) 3 (by decide) (hT _ gf_X11_73) rfl dX11_taken_27 ?_
        refine lv_iload_n hx hb dX11_taken_30 rfl (lv_at hl 1 rfl) ?_
        refine g_ia (j := j) (v := π 2 j) hx hb hK (h1 4 _ rfl) rfl (by omega) (Nat.le_of_ble_eq_true rfl) rfl dX11_taken_31 ?_
        refine lv_istore_n (lv' := [(3, .int (π 2 j)), (0, .ref B), (1, .int (nI j)), (2, .int (nI i))]) hx hb dX11_taken_32 rfl hl (by decide) rfl (fun ls hl => ?_)
        refine lv_aload_n hx hb dX11_taken_33 rfl (lv_at hl 1 rfl) ?_
        refine g_get (v := .ref (B + 1)) (T := TX11) (ci := 11) (N := 13) hx hb hown hK (gY_X11 hT) rfl (zO 0 _ rfl) 0 (by decide) (hT _ gf_X11_12) rfl dX11_taken_34 ?_
        refine g_get (v := .ref (B + 1 + 1)) (T := TX9) (ci := 9) (N := 16) hx hb hown hK (gY_X9 hT) rfl (h1 0 _ rfl) 0 (by decide) (hT _ gf_X11_230) rfl dX11_taken_37 ?_
        refine lv_iload_n hx hb dX11_taken_40 rfl (lv_at hl 0 rfl) ?_
        refine g_aa5 (j := 4) (v := .ref (B + 1 + 28 + 4)) hx hb hK (h1 1 _ rfl) ek (by omega) (Nat.le_of_ble_eq_true rfl) rfl dX11_taken_41 ?_
        refine lv_iload_n hx hb dX11_taken_42 rfl (lv_at hl 3 rfl) ?_
        refine g_ki (g_runS (rest := []) hx hb hml hown hE hT (c_X11_isUnder_4 l G (B + 1 + 28) i (by omega)) gM_X11_isUnder gm_X11_252 gt_X11_isUnder hk7 rfl hl.1 ⟨rfl, rfl⟩ ⟨Nat.le_of_ble_eq_true rfl, Nat.le_of_ble_eq_true rfl⟩ ⟨Nat.zero_le _, Nat.zero_le _⟩ rfl (Nat.le_of_ble_eq_true rfl) dX11_taken_43) hS (fun _ h => h.elim) (fun r34 H31 locs q32 k33 hS => ?_)
        subst q32
        have zO := gSg_free zO k33 (by intro k hk q; simp only [List.length_cons, List.length_nil] at hk; omega)
        have h1 := gSg_free h1 k33 (by intro k hk q; simp only [List.length_cons, List.length_nil] at hk; omega)
        have hk7 := gSg_free hk7 k33 (by intro k hk q; simp only [List.length_cons, List.length_nil] at hk; omega)
        have h2 := gSg_free h2 k33 (by intro k hk q; simp only [List.length_cons, List.length_nil] at hk; omega)
        have zT := gSg_free zT k33 (by intro k hk q; simp only [List.length_cons, List.length_nil] at hk; omega)
        have zKT := gSg_free zKT k33 (by intro k hk q; simp only [List.length_cons, List.length_nil] at hk; omega)
        have zE := gSg_free zE k33 (by intro k hk q; simp only [List.length_cons, List.length_nil] at hk; omega)
        have zB := gSg_free zB k33 (by intro k hk q; simp only [List.length_cons, List.length_nil] at hk; omega)
        have zF := gSg_free zF k33 (by intro k hk q; simp only [List.length_cons, List.length_nil] at hk; omega)
        have zN := gSg_free zN k33 (by intro k hk q; simp only [List.length_cons, List.length_nil] at hk; omega)
        have zA := gSg_free zA k33 (by intro k hk q; simp only [List.length_cons, List.length_nil] at hk; omega)
        have zP := gSg_free zP k33 (by intro k hk q; simp only [List.length_cons, List.length_nil] at hk; omega)
        have zG := gRows_free zG k33 (by intro k hk q; omega)
        refine lv_if_eq (tgt := 53) hx hb dX11_taken_46 (by decide) (fun c35 => ?_) (fun c35 => ?_)
        · have c35 : ¬ (nI i = nI 4 ∨ nI i = 0 ∨ (nI 4 = 4 ∧ nI i = 1) ∨ (nI 4 = 5 ∧ nI i = 2) ∨ (nI 4 = 6 ∧ nI i = 3)) := gB_0.mp c35
          refine lv_bipush (v := (-12)) hx hb dX11_taken_53 (by decide) ?_
          rw [← hQ]
          exact g_iret hx hb hr hlk hS dX11_taken_55 ⟨by rw [gqTaken, if_pos c5, if_pos c10, nI_clamp (show j < 2 ^ 31 by omega), ek, if_neg c35], _, hrr, zO, h1, hk7, ⟨_, h2⟩, ⟨_, _, _, zT⟩, zKT, ⟨_, hrk, zE⟩, zB, zF, ⟨_, zN⟩, zA, zP, zG⟩
        · have c35 : nI i = nI 4 ∨ nI i = 0 ∨ (nI 4 = 4 ∧ nI i = 1) ∨ (nI 4 = 5 ∧ nI i = 2) ∨ (nI 4 = 6 ∧ nI i = 3) := gB_1.mp c35
          refine lv_iload_n hx hb dX11_taken_49 rfl (lv_at hl 0 rfl) ?_
          refine lv_goto (tgt := 55) hx hb dX11_taken_50 (by decide) ?_
          rw [← hQ]
          exact g_iret hx hb hr hlk hS dX11_taken_55 ⟨by rw [gqTaken, if_pos c5, if_pos c10, nI_clamp (show j < 2 ^ 31 by omega), ek, if_pos c35], _, hrr, zO, h1, hk7, ⟨_, h2⟩, ⟨_, _, _, zT⟩, zKT, ⟨_, hrk, zE⟩, zB, zF, ⟨_, zN⟩, zA, zP, zG⟩
      · refine lv_aload_n hx hb dX11_taken_23 rfl (lv_at hl 0 rfl) ?_
        refine g_get (v := .ref (B + 1)) (T := TX11) (ci := 11) (N := 13) hx hb hown hK (gY_X11 hT) rfl (zO 0 _ rfl) 0 (by decide) (hT _ gf_X11_12) rfl dX11_taken_24 ?_
        refine g_get (v := .ref (B + 1 + 4)) (T := TX9) (ci := 9) (N := 16) hx hb hown hK (gY_X9 hT) rfl (h1 0 _ rfl) 3 (by decide) (hT _ gf_X11_73) rfl dX11_taken_27 ?_
        refine lv_iload_n hx hb dX11_taken_30 rfl (lv_at hl 1 rfl) ?_
        refine g_ia (j := j) (v := π 2 j) hx hb hK (h1 4 _ rfl) rfl (by omega) (Nat.le_of_ble_eq_true rfl) rfl dX11_taken_31 ?_
        refine lv_istore_n (lv' := [(3, .int (π 2 j)), (0, .ref B), (1, .int (nI j)), (2, .int (nI i))]) hx hb dX11_taken_32 rfl hl (by decide) rfl (fun ls hl => ?_)
        refine lv_aload_n hx hb dX11_taken_33 rfl (lv_at hl 1 rfl) ?_
        refine g_get (v := .ref (B + 1)) (T := TX11) (ci := 11) (N := 13) hx hb hown hK (gY_X11 hT) rfl (zO 0 _ rfl) 0 (by decide) (hT _ gf_X11_12) rfl dX11_taken_34 ?_
        refine g_get (v := .ref (B + 1 + 1)) (T := TX9) (ci := 9) (N := 16) hx hb hown hK (gY_X9 hT) rfl (h1 0 _ rfl) 0 (by decide) (hT _ gf_X11_230) rfl dX11_taken_37 ?_
        refine lv_iload_n hx hb dX11_taken_40 rfl (lv_at hl 0 rfl) ?_
        refine g_aa5 (j := 5) (v := .ref (B + 1 + 28 + 5)) hx hb hK (h1 1 _ rfl) ek (by omega) (Nat.le_of_ble_eq_true rfl) rfl dX11_taken_41 ?_
        refine lv_iload_n hx hb dX11_taken_42 rfl (lv_at hl 3 rfl) ?_
        refine g_ki (g_runS (rest := []) hx hb hml hown hE hT (c_X11_isUnder_5 l G (B + 1 + 28) i (by omega)) gM_X11_isUnder gm_X11_252 gt_X11_isUnder hk7 rfl hl.1 ⟨rfl, rfl⟩ ⟨Nat.le_of_ble_eq_true rfl, Nat.le_of_ble_eq_true rfl⟩ ⟨Nat.zero_le _, Nat.zero_le _⟩ rfl (Nat.le_of_ble_eq_true rfl) dX11_taken_43) hS (fun _ h => h.elim) (fun r39 H36 locs q37 k38 hS => ?_)
        subst q37
        have zO := gSg_free zO k38 (by intro k hk q; simp only [List.length_cons, List.length_nil] at hk; omega)
        have h1 := gSg_free h1 k38 (by intro k hk q; simp only [List.length_cons, List.length_nil] at hk; omega)
        have hk7 := gSg_free hk7 k38 (by intro k hk q; simp only [List.length_cons, List.length_nil] at hk; omega)
        have h2 := gSg_free h2 k38 (by intro k hk q; simp only [List.length_cons, List.length_nil] at hk; omega)
        have zT := gSg_free zT k38 (by intro k hk q; simp only [List.length_cons, List.length_nil] at hk; omega)
        have zKT := gSg_free zKT k38 (by intro k hk q; simp only [List.length_cons, List.length_nil] at hk; omega)
        have zE := gSg_free zE k38 (by intro k hk q; simp only [List.length_cons, List.length_nil] at hk; omega)
        have zB := gSg_free zB k38 (by intro k hk q; simp only [List.length_cons, List.length_nil] at hk; omega)
        have zF := gSg_free zF k38 (by intro k hk q; simp only [List.length_cons, List.length_nil] at hk; omega)
        have zN := gSg_free zN k38 (by intro k hk q; simp only [List.length_cons, List.length_nil] at hk; omega)
        have zA := gSg_free zA k38 (by intro k hk q; simp only [List.length_cons, List.length_nil] at hk; omega)
        have zP := gSg_free zP k38 (by intro k hk q; simp only [List.length_cons, List.length_nil] at hk; omega)
        have zG := gRows_free zG k38 (by intro k hk q; omega)
        refine lv_if_eq (tgt := 53) hx hb dX11_taken_46 (by decide) (fun c40 => ?_) (fun c40 => ?_)
        · have c40 : ¬ (nI i = nI 5 ∨ nI i = 0 ∨ (nI 5 = 4 ∧ nI i = 1) ∨ (nI 5 = 5 ∧ nI i = 2) ∨ (nI 5 = 6 ∧ nI i = 3)) := gB_0.mp c40
          refine lv_bipush (v := (-12)) hx hb dX11_taken_53 (by decide) ?_
          rw [← hQ]
          exact g_iret hx hb hr hlk hS dX11_taken_55 ⟨by rw [gqTaken, if_pos c5, if_pos c10, nI_clamp (show j < 2 ^ 31 by omega), ek, if_neg c40], _, hrr, zO, h1, hk7, ⟨_, h2⟩, ⟨_, _, _, zT⟩, zKT, ⟨_, hrk, zE⟩, zB, zF, ⟨_, zN⟩, zA, zP, zG⟩
        · have c40 : nI i = nI 5 ∨ nI i = 0 ∨ (nI 5 = 4 ∧ nI i = 1) ∨ (nI 5 = 5 ∧ nI i = 2) ∨ (nI 5 = 6 ∧ nI i = 3) := gB_1.mp c40
          refine lv_iload_n hx hb dX11_taken_49 rfl (lv_at hl 0 rfl) ?_
          refine lv_goto (tgt := 55) hx hb dX11_taken_50 (by decide) ?_
          rw [← hQ]
          exact g_iret hx hb hr hlk hS dX11_taken_55 ⟨by rw [gqTaken, if_pos c5, if_pos c10, nI_clamp (show j < 2 ^ 31 by omega), ek, if_pos c40], _, hrr, zO, h1, hk7, ⟨_, h2⟩, ⟨_, _, _, zT⟩, zKT, ⟨_, hrk, zE⟩, zB, zF, ⟨_, zN⟩, zA, zP, zG⟩
      · refine lv_aload_n hx hb dX11_taken_23 rfl (lv_at hl 0 rfl) ?_
        refine g_get (v := .ref (B + 1)) (T := TX11) (ci := 11) (N := 13) hx hb hown hK (gY_X11 hT) rfl (zO 0 _ rfl) 0 (by decide) (hT _ gf_X11_12) rfl dX11_taken_24 ?_
        refine g_get (v := .ref (B + 1 + 4)) (T := TX9) (ci := 9) (N := 16) hx hb hown hK (gY_X9 hT) rfl (h1 0 _ rfl) 3 (by decide) (hT _ gf_X11_73) rfl dX11_taken_27 ?_
        refine lv_iload_n hx hb dX11_taken_30 rfl (lv_at hl 1 rfl) ?_
        refine g_ia (j := j) (v := π 2 j) hx hb hK (h1 4 _ rfl) rfl (by omega) (Nat.le_of_ble_eq_true rfl) rfl dX11_taken_31 ?_
        refine lv_istore_n (lv' := [(3, .int (π 2 j)), (0, .ref B), (1, .int (nI j)), (2, .int (nI i))]) hx hb dX11_taken_32 rfl hl (by decide) rfl (fun ls hl => ?_)
        refine lv_aload_n hx hb dX11_taken_33 rfl (lv_at hl 1 rfl) ?_
        refine g_get (v := .ref (B + 1)) (T := TX11) (ci := 11) (N := 13) hx hb hown hK (gY_X11 hT) rfl (zO 0 _ rfl) 0 (by decide) (hT _ gf_X11_12) rfl dX11_taken_34 ?_
        refine g_get (v := .ref (B + 1 + 1)) (T := TX9) (ci := 9) (N := 16) hx hb hown hK (gY_X9 hT) rfl (h1 0 _ rfl) 0 (by decide) (hT _ gf_X11_230) rfl dX11_taken_37 ?_
        refine lv_iload_n hx hb dX11_taken_40 rfl (lv_at hl 0 rfl) ?_
        refine g_aa5 (j := 6) (v := .ref (B + 1 + 28 + 6)) hx hb hK (h1 1 _ rfl) ek (by omega) (Nat.le_of_ble_eq_true rfl) rfl dX11_taken_41 ?_
        refine lv_iload_n hx hb dX11_taken_42 rfl (lv_at hl 3 rfl) ?_
        refine g_ki (g_runS (rest := []) hx hb hml hown hE hT (c_X11_isUnder_6 l G (B + 1 + 28) i (by omega)) gM_X11_isUnder gm_X11_252 gt_X11_isUnder hk7 rfl hl.1 ⟨rfl, rfl⟩ ⟨Nat.le_of_ble_eq_true rfl, Nat.le_of_ble_eq_true rfl⟩ ⟨Nat.zero_le _, Nat.zero_le _⟩ rfl (Nat.le_of_ble_eq_true rfl) dX11_taken_43) hS (fun _ h => h.elim) (fun r44 H41 locs q42 k43 hS => ?_)
        subst q42
        have zO := gSg_free zO k43 (by intro k hk q; simp only [List.length_cons, List.length_nil] at hk; omega)
        have h1 := gSg_free h1 k43 (by intro k hk q; simp only [List.length_cons, List.length_nil] at hk; omega)
        have hk7 := gSg_free hk7 k43 (by intro k hk q; simp only [List.length_cons, List.length_nil] at hk; omega)
        have h2 := gSg_free h2 k43 (by intro k hk q; simp only [List.length_cons, List.length_nil] at hk; omega)
        have zT := gSg_free zT k43 (by intro k hk q; simp only [List.length_cons, List.length_nil] at hk; omega)
        have zKT := gSg_free zKT k43 (by intro k hk q; simp only [List.length_cons, List.length_nil] at hk; omega)
        have zE := gSg_free zE k43 (by intro k hk q; simp only [List.length_cons, List.length_nil] at hk; omega)
        have zB := gSg_free zB k43 (by intro k hk q; simp only [List.length_cons, List.length_nil] at hk; omega)
        have zF := gSg_free zF k43 (by intro k hk q; simp only [List.length_cons, List.length_nil] at hk; omega)
        have zN := gSg_free zN k43 (by intro k hk q; simp only [List.length_cons, List.length_nil] at hk; omega)
        have zA := gSg_free zA k43 (by intro k hk q; simp only [List.length_cons, List.length_nil] at hk; omega)
        have zP := gSg_free zP k43 (by intro k hk q; simp only [List.length_cons, List.length_nil] at hk; omega)
        have zG := gRows_free zG k43 (by intro k hk q; omega)
        refine lv_if_eq (tgt := 53) hx hb dX11_taken_46 (by decide) (fun c45 => ?_) (fun c45 => ?_)
        · have c45 : ¬ (nI i = nI 6 ∨ nI i = 0 ∨ (nI 6 = 4 ∧ nI i = 1) ∨ (nI 6 = 5 ∧ nI i = 2) ∨ (nI 6 = 6 ∧ nI i = 3)) := gB_0.mp c45
          refine lv_bipush (v := (-12)) hx hb dX11_taken_53 (by decide) ?_
          rw [← hQ]
          exact g_iret hx hb hr hlk hS dX11_taken_55 ⟨by rw [gqTaken, if_pos c5, if_pos c10, nI_clamp (show j < 2 ^ 31 by omega), ek, if_neg c45], _, hrr, zO, h1, hk7, ⟨_, h2⟩, ⟨_, _, _, zT⟩, zKT, ⟨_, hrk, zE⟩, zB, zF, ⟨_, zN⟩, zA, zP, zG⟩
        · have c45 : nI i = nI 6 ∨ nI i = 0 ∨ (nI 6 = 4 ∧ nI i = 1) ∨ (nI 6 = 5 ∧ nI i = 2) ∨ (nI 6 = 6 ∧ nI i = 3) := gB_1.mp c45
          refine lv_iload_n hx hb dX11_taken_49 rfl (lv_at hl 0 rfl) ?_
          refine lv_goto (tgt := 55) hx hb dX11_taken_50 (by decide) ?_
          rw [← hQ]
          exact g_iret hx hb hr hlk hS dX11_taken_55 ⟨by rw [gqTaken, if_pos c5, if_pos c10, nI_clamp (show j < 2 ^ 31 by omega), ek, if_pos c45], _, hrr, zO, h1, hk7, ⟨_, h2⟩, ⟨_, _, _, zT⟩, zKT, ⟨_, hrk, zE⟩, zB, zF, ⟨_, zN⟩, zA, zP, zG⟩
    · have c10 : ¬ (0 ≤ p ∧ p < π 15 0) := gB_0.mp c10
      refine lv_bipush (v := (-11)) hx hb dX11_taken_20 (by decide) ?_
      rw [← hQ]
      exact g_iret hx hb hr hlk hS dX11_taken_22 ⟨by rw [gqTaken, if_pos c5, if_neg c10], _, hrr, zO, h1, hk7, ⟨_, h2⟩, ⟨_, _, _, zT⟩, zKT, ⟨_, hrk, zE⟩, zB, zF, ⟨_, zN⟩, zA, zP, zG⟩
  · have c5 : ¬ (0 ≤ k ∧ k ≤ 6) := gB_0.mp c5
    refine lv_bipush (v := (-2)) hx hb dX11_taken_9 (by decide) ?_
    rw [← hQ]
    exact g_iret hx hb hr hlk hS dX11_taken_11 ⟨by rw [gqTaken, if_neg c5], _, hrr, zO, h1, hk7, ⟨_, h2⟩, ⟨_, _, _, zT⟩, zKT, ⟨_, hrk, zE⟩, zB, zF, ⟨_, zN⟩, zA, zP, zG⟩

set_option maxHeartbeats 4000000 in
set_option maxRecDepth 100000 in
theorem c_X11_act (l : Launch) (G : gW) (B lp : Nat) (π πk f μ α : gPS) (lk : Nat) (g : Nat → Int64) (acc : List (Nat × Nat × List Nat)) (hcl : gClo f acc) (hI : gInv π) (hlp : lp = B + 23 ∨ lp = B + 58 ∨ lp = B + 93 ∨ (B + 120 ≤ lp ∧ lp + 6 ≤ B + 156)) (p a x : Int32) : gCI l yX11_act cX11_act 5 .int (gRm 7 153) G [.ref B, .int p, .int a, .int x] (fun H => gCW G B lp π lk πk f μ α g H) (fun r H => r = (gqAct π μ p a x).1 ∧ gCW G B lp π lk πk f μ (gqActA π α p a x) g H) (fun q => (lp ≤ q ∧ q < lp + 6) ∨ (B ≤ q ∧ q < B + 23) ∨ (B + 36 ≤ q ∧ q < B + 58) ∨ (B + 71 ≤ q ∧ q < B + 93) ∨ (B + 106 ≤ q ∧ q < B + 120)) := by
  refine g_start (by decide) (Nat.le_of_ble_eq_true rfl) ?_
  intro pp_ ee_ s mm_ aa_ below meth cc_ ls Q hQ hX hE hP hl
  obtain ⟨hx, hb, hr, hml, hown, hT, hlk, hnm⟩ := hX
  have hK := hE.2.1
  obtain ⟨ρ, hrr, zO, h1, hk7, ⟨s4, h2⟩, ⟨πt, lt, ρt, zT⟩, zKT, ⟨ρk, hrk, zE⟩, zB, zF, ⟨γ, zN⟩, zA, zP, zG⟩ := hP
  have hS : va_S (fun q => (lp ≤ q ∧ q < lp + 6) ∨ (B ≤ q ∧ q < B + 23) ∨ (B + 36 ≤ q ∧ q < B + 58) ∨ (B + 71 ≤ q ∧ q < B + 93) ∨ (B + 106 ≤ q ∧ q < B + 120)) s.heap s.heap [] := va_S.rf
  have hl : lv_has ls 5 [(0, .ref B), (1, .int p), (2, .int a), (3, .int x)] := hl
  obtain ⟨⟨n, hn, hz, h0z⟩, hki, ⟨sn, hsn, hz3, hsp⟩, ⟨pn, hpn, hz4, hpo⟩, ⟨bn, hbn, hz5, hbo⟩, hfl9⟩ := id hI
  have hd1 : lp + 6 ≤ B + 1 ∨ lp = B + 1 + 22 ∨ B + 1 + 35 ≤ lp := by omega
  have hd36 : lp + 6 ≤ B + 36 ∨ lp = B + 36 + 22 ∨ B + 36 + 35 ≤ lp := by omega
  refine lv_aload_n hx hb dX11_act_0 rfl (lv_at hl 0 rfl) ?_
  refine lv_iload_n hx hb dX11_act_1 rfl (lv_at hl 1 rfl) ?_
  refine g_ki (g_runV (T := TX11) (ci := 11) (N := 13) (rest := []) hx hb hml hown hE hT (c_X11_isPigeon l G B lp π ρ μ n hz (by omega) p) gM_X11_isPigeon gm_X11_69 gi_X11_isPigeon gs_RX11_yX11_isPigeon_yX11_isPigeon rfl (zO 0 _ rfl) ⟨zO, h1⟩ rfl hl.1 ⟨rfl, rfl⟩ ⟨Nat.le_of_ble_eq_true rfl, Nat.le_of_ble_eq_true rfl⟩ ⟨Nat.zero_le _, Nat.zero_le _⟩ rfl (Nat.le_of_ble_eq_true rfl) dX11_act_2) hS (fun _ h => h.elim) (fun r4 H1 locs q2 k3 hS => ?_)
  subst q2
  have zO := gSg_free zO k3 (by intro k hk q; simp only [List.length_cons, List.length_nil] at hk; omega)
  have h1 := gSg_free h1 k3 (by intro k hk q; simp only [List.length_cons, List.length_nil] at hk; omega)
  have hk7 := gSg_free hk7 k3 (by intro k hk q; simp only [List.length_cons, List.length_nil] at hk; omega)
  have h2 := gSg_free h2 k3 (by intro k hk q; simp only [List.length_cons, List.length_nil] at hk; omega)
  have zT := gSg_free zT k3 (by intro k hk q; simp only [List.length_cons, List.length_nil] at hk; omega)
  have zKT := gSg_free zKT k3 (by intro k hk q; simp only [List.length_cons, List.length_nil] at hk; omega)
  have zE := gSg_free zE k3 (by intro k hk q; simp only [List.length_cons, List.length_nil] at hk; omega)
  have zB := gSg_free zB k3 (by intro k hk q; simp only [List.length_cons, List.length_nil] at hk; omega)
  have zF := gSg_free zF k3 (by intro k hk q; simp only [List.length_cons, List.length_nil] at hk; omega)
  have zN := gSg_free zN k3 (by intro k hk q; simp only [List.length_cons, List.length_nil] at hk; omega)
  have zA := gSg_free zA k3 (by intro k hk q; simp only [List.length_cons, List.length_nil] at hk; omega)
  have zP := gSg_free zP k3 (by intro k hk q; simp only [List.length_cons, List.length_nil] at hk; omega)
  have zG := gRows_free zG k3 (by intro k hk q; omega)
  refine lv_if_eq (tgt := 16) hx hb dX11_act_5 (by decide) (fun c5 => ?_) (fun c5 => ?_)
  · have c5 : ¬ (0 ≤ p ∧ p < π 15 0) := gB_0.mp c5
    refine lv_aload_n hx hb dX11_act_16 rfl (lv_at hl 0 rfl) ?_
    refine g_get (v := .ref (B + 109)) (T := TX11) (ci := 11) (N := 13) hx hb hown hK (gY_X11 hT) rfl (zO 0 _ rfl) 9 (by decide) (hT _ gf_X11_41) rfl dX11_act_17 ?_
    refine lv_iconst (v := 0) hx hb dX11_act_20 (by decide) ?_
    refine lv_iconst (v := 0) hx hb dX11_act_21 (by decide) ?_
    refine g_kv (g_runV (T := TX0) (ci := 0) (N := 4) (rest := []) hx hb hml hown hE hT (c_X0_starts l G (B + 109) α 0 0) gM_X0_starts gm_X11_227 gi_X0_starts gs_RX0_yX0_starts_yX0_starts rfl (zA 0 _ rfl) zA rfl hl.1 ⟨rfl, rfl⟩ ⟨Nat.le_of_ble_eq_true rfl, Nat.le_of_ble_eq_true rfl⟩ ⟨Nat.zero_le _, Nat.zero_le _⟩ rfl (Nat.le_of_ble_eq_true rfl) dX11_act_22) hS (by intro q hq; omega) (fun H6 locs q7 k8 hS => ?_)
    have zA := q7
    have zO := gSg_free zO k8 (by intro k hk q; simp only [List.length_cons, List.length_nil] at hk; omega)
    have h1 := gSg_free h1 k8 (by intro k hk q; simp only [List.length_cons, List.length_nil] at hk; omega)
    have hk7 := gSg_free hk7 k8 (by intro k hk q; simp only [List.length_cons, List.length_nil] at hk; omega)
    have h2 := gSg_free h2 k8 (by intro k hk q; simp only [List.length_cons, List.length_nil] at hk; omega)
    have zT := gSg_free zT k8 (by intro k hk q; simp only [List.length_cons, List.length_nil] at hk; omega)
    have zKT := gSg_free zKT k8 (by intro k hk q; simp only [List.length_cons, List.length_nil] at hk; omega)
    have zE := gSg_free zE k8 (by intro k hk q; simp only [List.length_cons, List.length_nil] at hk; omega)
    have zB := gSg_free zB k8 (by intro k hk q; simp only [List.length_cons, List.length_nil] at hk; omega)
    have zF := gSg_free zF k8 (by intro k hk q; simp only [List.length_cons, List.length_nil] at hk; omega)
    have zN := gSg_free zN k8 (by intro k hk q; simp only [List.length_cons, List.length_nil] at hk; omega)
    have zP := gSg_free zP k8 (by intro k hk q; simp only [List.length_cons, List.length_nil] at hk; omega)
    have zG := gRows_free zG k8 (by intro k hk q; omega)
    have zA : gSg G (B + 109) (gLA G (B + 109) (gAst α 0 0)) H6 := zA
    refine lv_iconst (v := 0) hx hb dX11_act_25 (by decide) ?_
    rw [← hQ]
    exact g_iret hx hb hr hlk hS dX11_act_26 (by rw [show gqAct π μ p a x = (0, gU μ 4 1 0) from by simp only [gqAct, if_neg c5], show gqActA π α p a x = gAst α 0 0 from by simp only [gqActA, if_neg c5]]; exact ⟨rfl, _, hrr, zO, h1, hk7, ⟨_, h2⟩, ⟨_, _, _, zT⟩, zKT, ⟨_, hrk, zE⟩, zB, zF, ⟨_, zN⟩, zA, zP, zG⟩)
  · have c5 : 0 ≤ p ∧ p < π 15 0 := gB_1.mp c5
    obtain ⟨j, hj, ej⟩ := gIx hz (by omega) c5
    subst ej
    refine lv_iload_n hx hb dX11_act_8 rfl (lv_at hl 2 rfl) ?_
    refine lv_iconst (v := 2) hx hb dX11_act_9 (by decide) ?_
    refine g_ki (g_runS (rest := []) hx hb hml hown hE hT (c_X11_isUpTo l G a 2) gM_X11_isUpTo gm_X11_57 gt_X11_isUpTo trivial rfl hl.1 ⟨rfl, rfl⟩ ⟨Nat.le_of_ble_eq_true rfl, Nat.le_of_ble_eq_true rfl⟩ ⟨Nat.zero_le _, Nat.zero_le _⟩ rfl (Nat.le_of_ble_eq_true rfl) dX11_act_10) hS (fun _ h => h.elim) (fun r13 H10 locs q11 k12 hS => ?_)
    subst q11
    have zO := gSg_free zO k12 (by intro k hk q; simp only [List.length_cons, List.length_nil] at hk; omega)
    have h1 := gSg_free h1 k12 (by intro k hk q; simp only [List.length_cons, List.length_nil] at hk; omega)
    have hk7 := gSg_free hk7 k12 (by intro k hk q; simp only [List.length_cons, List.length_nil] at hk; omega)
    have h2 := gSg_free h2 k12 (by intro k hk q; simp only [List.length_cons, List.length_nil] at hk; omega)
    have zT := gSg_free zT k12 (by intro k hk q; simp only [List.length_cons, List.length_nil] at hk; omega)
    have zKT := gSg_free zKT k12 (by intro k hk q; simp only [List.length_cons, List.length_nil] at hk; omega)
    have zE := gSg_free zE k12 (by intro k hk q; simp only [List.length_cons, List.length_nil] at hk; omega)
    have zB := gSg_free zB k12 (by intro k hk q; simp only [List.length_cons, List.length_nil] at hk; omega)
    have zF := gSg_free zF k12 (by intro k hk q; simp only [List.length_cons, List.length_nil] at hk; omega)
    have zN := gSg_free zN k12 (by intro k hk q; simp only [List.length_cons, List.length_nil] at hk; omega)
    have zA := gSg_free zA k12 (by intro k hk q; simp only [List.length_cons, List.length_nil] at hk; omega)
    have zP := gSg_free zP k12 (by intro k hk q; simp only [List.length_cons, List.length_nil] at hk; omega)
    have zG := gRows_free zG k12 (by intro k hk q; omega)
    refine lv_if_ne (tgt := 27) hx hb dX11_act_13 (by decide) (fun c14 => ?_) (fun c14 => ?_)
    · have c14 : 0 ≤ a ∧ a ≤ 2 := gB_1.mp c14
      refine lv_aload_n hx hb dX11_act_27 rfl (lv_at hl 0 rfl) ?_
      refine g_get (v := .ref (B + 109)) (T := TX11) (ci := 11) (N := 13) hx hb hown hK (gY_X11 hT) rfl (zO 0 _ rfl) 9 (by decide) (hT _ gf_X11_41) rfl dX11_act_28 ?_
      refine lv_iload_n hx hb dX11_act_31 rfl (lv_at hl 1 rfl) ?_
      refine lv_aload_n hx hb dX11_act_32 rfl (lv_at hl 0 rfl) ?_
      refine g_get (v := .ref (B + 1)) (T := TX11) (ci := 11) (N := 13) hx hb hown hK (gY_X11 hT) rfl (zO 0 _ rfl) 0 (by decide) (hT _ gf_X11_12) rfl dX11_act_33 ?_
      refine g_get (v := .ref (B + 1 + 5)) (T := TX9) (ci := 9) (N := 16) hx hb hown hK (gY_X9 hT) rfl (h1 0 _ rfl) 4 (by decide) (hT _ gf_X11_76) rfl dX11_act_36 ?_
      refine lv_iload_n hx hb dX11_act_39 rfl (lv_at hl 1 rfl) ?_
      refine g_ia (j := j) (v := π 3 j) hx hb hK (h1 5 _ rfl) rfl (by omega) (Nat.le_of_ble_eq_true rfl) rfl dX11_act_40 ?_
      refine g_kv (g_runV (T := TX0) (ci := 0) (N := 4) (rest := []) hx hb hml hown hE hT (c_X0_starts l G (B + 109) α (nI j) (π 3 j)) gM_X0_starts gm_X11_227 gi_X0_starts gs_RX0_yX0_starts_yX0_starts rfl (zA 0 _ rfl) zA rfl hl.1 ⟨rfl, rfl⟩ ⟨Nat.le_of_ble_eq_true rfl, Nat.le_of_ble_eq_true rfl⟩ ⟨Nat.zero_le _, Nat.zero_le _⟩ rfl (Nat.le_of_ble_eq_true rfl) dX11_act_41) hS (by intro q hq; omega) (fun H15 locs q16 k17 hS => ?_)
      have zA := q16
      have zO := gSg_free zO k17 (by intro k hk q; simp only [List.length_cons, List.length_nil] at hk; omega)
      have h1 := gSg_free h1 k17 (by intro k hk q; simp only [List.length_cons, List.length_nil] at hk; omega)
      have hk7 := gSg_free hk7 k17 (by intro k hk q; simp only [List.length_cons, List.length_nil] at hk; omega)
      have h2 := gSg_free h2 k17 (by intro k hk q; simp only [List.length_cons, List.length_nil] at hk; omega)
      have zT := gSg_free zT k17 (by intro k hk q; simp only [List.length_cons, List.length_nil] at hk; omega)
      have zKT := gSg_free zKT k17 (by intro k hk q; simp only [List.length_cons, List.length_nil] at hk; omega)
      have zE := gSg_free zE k17 (by intro k hk q; simp only [List.length_cons, List.length_nil] at hk; omega)
      have zB := gSg_free zB k17 (by intro k hk q; simp only [List.length_cons, List.length_nil] at hk; omega)
      have zF := gSg_free zF k17 (by intro k hk q; simp only [List.length_cons, List.length_nil] at hk; omega)
      have zN := gSg_free zN k17 (by intro k hk q; simp only [List.length_cons, List.length_nil] at hk; omega)
      have zP := gSg_free zP k17 (by intro k hk q; simp only [List.length_cons, List.length_nil] at hk; omega)
      have zG := gRows_free zG k17 (by intro k hk q; omega)
      have zA : gSg G (B + 109) (gLA G (B + 109) (gAst α (nI j) (π 3 j))) H15 := zA
      obtain ⟨kd, hkd, ek⟩ := hki j (by omega)
      have ec : (π 2 j).toNatClampNeg = kd := by rw [ek, nI_clamp (by omega)]
      rcases gKd7 hkd with rfl | rfl | rfl | rfl | rfl | rfl | rfl
      · refine lv_aload_n hx hb dX11_act_44 rfl (lv_at hl 0 rfl) ?_
        refine g_get (v := .ref (B + 1)) (T := TX11) (ci := 11) (N := 13) hx hb hown hK (gY_X11 hT) rfl (zO 0 _ rfl) 0 (by decide) (hT _ gf_X11_12) rfl dX11_act_45 ?_
        refine g_get (v := .ref (B + 1 + 1)) (T := TX9) (ci := 9) (N := 16) hx hb hown hK (gY_X9 hT) rfl (h1 0 _ rfl) 0 (by decide) (hT _ gf_X11_230) rfl dX11_act_48 ?_
        refine lv_aload_n hx hb dX11_act_51 rfl (lv_at hl 0 rfl) ?_
        refine g_get (v := .ref (B + 1)) (T := TX11) (ci := 11) (N := 13) hx hb hown hK (gY_X11 hT) rfl (zO 0 _ rfl) 0 (by decide) (hT _ gf_X11_12) rfl dX11_act_52 ?_
        refine g_get (v := .ref (B + 1 + 4)) (T := TX9) (ci := 9) (N := 16) hx hb hown hK (gY_X9 hT) rfl (h1 0 _ rfl) 3 (by decide) (hT _ gf_X11_73) rfl dX11_act_55 ?_
        refine lv_iload_n hx hb dX11_act_58 rfl (lv_at hl 1 rfl) ?_
        refine g_ia (j := j) (v := π 2 j) hx hb hK (h1 4 _ rfl) rfl (by omega) (Nat.le_of_ble_eq_true rfl) rfl dX11_act_59 ?_
        refine g_aa5 (j := 0) (v := .ref (B + 1 + 28 + 0)) hx hb hK (h1 1 _ rfl) ek (by omega) (Nat.le_of_ble_eq_true rfl) rfl dX11_act_60 ?_
        refine lv_astore (lv' := [(4, .ref (B + 1 + 28 + 0)), (0, .ref B), (1, .int (nI j)), (2, .int a), (3, .int x)]) hx hb dX11_act_61 hl (by decide) rfl (fun ls hl => ?_)
        refine lv_iload_n hx hb dX11_act_63 rfl (lv_at hl 3 rfl) ?_
        by_cases c19 : a = 0
        · refine lv_lookup (off := 28) (tgt := 92) hx hb dX11_act_64 (by decide) (by rw [c19]; rfl) (by decide) ?_
          refine lv_aload hx hb dX11_act_92 (lv_at hl 0 rfl) ?_
          refine lv_aload_n hx hb dX11_act_94 rfl (lv_at hl 1 rfl) ?_
          refine g_get (v := .ref (B + 109)) (T := TX11) (ci := 11) (N := 13) hx hb hown hK (gY_X11 hT) rfl (zO 0 _ rfl) 9 (by decide) (hT _ gf_X11_41) rfl dX11_act_95 ?_
          refine lv_iload_n hx hb dX11_act_98 rfl (lv_at hl 4 rfl) ?_
          refine g_ki (g_runW (x := yX7_coos) (rest := []) (T := TX7) (ci := 7) (N := 0) (C := RX7) hx hb hml hown hE hT (c_X7_coos l G (B + 1 + 28 + 0) (B + 1 + 28) (B + 109) (gAst α (nI j) (π 3 j)) (by omega) 0 gAst_0 j (π 3 j) gAst_1 gAst_2 (by omega) x) gM_X7_coos gm_X11_234 gi_X7_coos gs_RX7_yX7_coos_yX7_coos gx_879 gi_X7_coos gc_X7_coos ⟨by decide, by decide, by decide +kernel⟩ rfl (hk7 0 _ rfl) zA rfl hl.1 ⟨rfl, rfl⟩ ⟨Nat.le_of_ble_eq_true rfl, Nat.le_of_ble_eq_true rfl⟩ ⟨Nat.zero_le _, Nat.zero_le _⟩ rfl (Nat.le_of_ble_eq_true rfl) dX11_act_99) hS (by intro q hq; omega) (fun r23 H20 locs q21 k22 hS => ?_)
          obtain ⟨e9, zA⟩ := q21
          have e9 : _ = (gCoo j (π 3 j) 0 x).1 := e9
          rw [e9]
          have zO := gSg_free zO k22 (by intro k hk q; simp only [List.length_cons, List.length_nil] at hk; omega)
          have h1 := gSg_free h1 k22 (by intro k hk q; simp only [List.length_cons, List.length_nil] at hk; omega)
          have hk7 := gSg_free hk7 k22 (by intro k hk q; simp only [List.length_cons, List.length_nil] at hk; omega)
          have h2 := gSg_free h2 k22 (by intro k hk q; simp only [List.length_cons, List.length_nil] at hk; omega)
          have zT := gSg_free zT k22 (by intro k hk q; simp only [List.length_cons, List.length_nil] at hk; omega)
          have zKT := gSg_free zKT k22 (by intro k hk q; simp only [List.length_cons, List.length_nil] at hk; omega)
          have zE := gSg_free zE k22 (by intro k hk q; simp only [List.length_cons, List.length_nil] at hk; omega)
          have zB := gSg_free zB k22 (by intro k hk q; simp only [List.length_cons, List.length_nil] at hk; omega)
          have zF := gSg_free zF k22 (by intro k hk q; simp only [List.length_cons, List.length_nil] at hk; omega)
          have zN := gSg_free zN k22 (by intro k hk q; simp only [List.length_cons, List.length_nil] at hk; omega)
          have zP := gSg_free zP k22 (by intro k hk q; simp only [List.length_cons, List.length_nil] at hk; omega)
          have zG := gRows_free zG k22 (by intro k hk q; omega)
          have zA : gSg G (B + 109) (gLA G (B + 109) (gTbs (gAst α (nI j) (π 3 j)) (gCoo j (π 3 j) 0 x).2)) H20 := zA
          rw [← hQ]
          exact g_iret hx hb hr hlk hS dX11_act_102 (by rw [show gqAct π μ (nI j) a x = ((gCoo j (π 3 j) 0 x).1, gTrs (gU μ 4 1 0) (gCoo j (π 3 j) 0 x).2) from by simp only [gqAct, if_pos c5, if_pos c14, nI_clamp (show j < 2 ^ 31 by omega), gAct, ec, if_pos c19], show gqActA π α (nI j) a x = gTbs (gAst α (nI j) (π 3 j)) (gCoo j (π 3 j) 0 x).2 from by simp only [gqActA, if_pos c5, if_pos c14, nI_clamp (show j < 2 ^ 31 by omega), gAct, ec, if_pos c19]]; exact ⟨rfl, _, hrr, zO, h1, hk7, ⟨_, h2⟩, ⟨_, _, _, zT⟩, zKT, ⟨_, hrk, zE⟩, zB, zF, ⟨_, zN⟩, zA, zP, zG⟩)
        · skip
          by_cases c24 : a = 1
          · refine lv_lookup (off := 39) (tgt := 103) hx hb dX11_act_64 (by decide) (by rw [c24]; rfl) (by decide) ?_
            refine lv_aload hx hb dX11_act_103 (lv_at hl 0 rfl) ?_
            refine lv_aload_n hx hb dX11_act_105 rfl (lv_at hl 1 rfl) ?_
            refine g_get (v := .ref (B + 109)) (T := TX11) (ci := 11) (N := 13) hx hb hown hK (gY_X11 hT) rfl (zO 0 _ rfl) 9 (by decide) (hT _ gf_X11_41) rfl dX11_act_106 ?_
            refine lv_iload_n hx hb dX11_act_109 rfl (lv_at hl 4 rfl) ?_
            refine g_ki (g_runW (x := yX7_flies) (rest := []) (T := TX7) (ci := 7) (N := 0) (C := RX7) hx hb hml hown hE hT (c_X7_flies_0 l G  (B + 1 + 28) (B + 109) (gAst α (nI j) (π 3 j)) (by omega) 0 gAst_0 j (π 3 j) gAst_1 gAst_2 (by omega) x) gM_X7_flies gm_X11_240 gi_X7_flies gs_RX7_yX7_flies_yX7_flies gx_909 gi_X7_flies gc_X7_flies ⟨by decide, by decide, by decide +kernel⟩ rfl (hk7 0 _ rfl) ⟨hk7, zA⟩ rfl hl.1 ⟨rfl, rfl⟩ ⟨Nat.le_of_ble_eq_true rfl, Nat.le_of_ble_eq_true rfl⟩ ⟨Nat.zero_le _, Nat.zero_le _⟩ rfl (Nat.le_of_ble_eq_true rfl) dX11_act_110) hS (by intro q hq; omega) (fun r28 H25 locs q26 k27 hS => ?_)
            obtain ⟨e9, hk7, zA⟩ := q26
            have e9 : _ = (gFli j (π 3 j) 0 0 x).1 := e9
            rw [e9]
            have zO := gSg_free zO k27 (by intro k hk q; simp only [List.length_cons, List.length_nil] at hk; omega)
            have h1 := gSg_free h1 k27 (by intro k hk q; simp only [List.length_cons, List.length_nil] at hk; omega)
            have h2 := gSg_free h2 k27 (by intro k hk q; simp only [List.length_cons, List.length_nil] at hk; omega)
            have zT := gSg_free zT k27 (by intro k hk q; simp only [List.length_cons, List.length_nil] at hk; omega)
            have zKT := gSg_free zKT k27 (by intro k hk q; simp only [List.length_cons, List.length_nil] at hk; omega)
            have zE := gSg_free zE k27 (by intro k hk q; simp only [List.length_cons, List.length_nil] at hk; omega)
            have zB := gSg_free zB k27 (by intro k hk q; simp only [List.length_cons, List.length_nil] at hk; omega)
            have zF := gSg_free zF k27 (by intro k hk q; simp only [List.length_cons, List.length_nil] at hk; omega)
            have zN := gSg_free zN k27 (by intro k hk q; simp only [List.length_cons, List.length_nil] at hk; omega)
            have zP := gSg_free zP k27 (by intro k hk q; simp only [List.length_cons, List.length_nil] at hk; omega)
            have zG := gRows_free zG k27 (by intro k hk q; omega)
            have zA : gSg G (B + 109) (gLA G (B + 109) (gTbs (gAst α (nI j) (π 3 j)) (gFli j (π 3 j) 0 0 x).2)) H25 := zA
            rw [← hQ]
            exact g_iret hx hb hr hlk hS dX11_act_113 (by rw [show gqAct π μ (nI j) a x = ((gFli j (π 3 j) 0 0 x).1, gTrs (gU μ 4 1 0) (gFli j (π 3 j) 0 0 x).2) from by simp only [gqAct, if_pos c5, if_pos c14, nI_clamp (show j < 2 ^ 31 by omega), gAct, ec, if_neg c19, if_pos c24], show gqActA π α (nI j) a x = gTbs (gAst α (nI j) (π 3 j)) (gFli j (π 3 j) 0 0 x).2 from by simp only [gqActA, if_pos c5, if_pos c14, nI_clamp (show j < 2 ^ 31 by omega), gAct, ec, if_neg c19, if_pos c24]]; exact ⟨rfl, _, hrr, zO, h1, hk7, ⟨_, h2⟩, ⟨_, _, _, zT⟩, zKT, ⟨_, hrk, zE⟩, zB, zF, ⟨_, zN⟩, zA, zP, zG⟩)
          · skip
            refine lv_lookup (off := 50) (tgt := 114) hx hb dX11_act_64 (by decide) (by show Op.lookupswitch.offset [(0, 28), (1, 39)] 50 _ = _; rw [lv_osw (a := 0) c19 (by decide), lv_osw (a := 1) c24 (by decide)]; rfl) (by decide) ?_
            refine lv_aload hx hb dX11_act_114 (lv_at hl 0 rfl) ?_
            refine lv_aload_n hx hb dX11_act_116 rfl (lv_at hl 1 rfl) ?_
            refine g_get (v := .ref (B + 109)) (T := TX11) (ci := 11) (N := 13) hx hb hown hK (gY_X11 hT) rfl (zO 0 _ rfl) 9 (by decide) (hT _ gf_X11_41) rfl dX11_act_117 ?_
            refine lv_iload_n hx hb dX11_act_120 rfl (lv_at hl 4 rfl) ?_
            refine g_ki (g_runW (x := yX7_tells) (rest := []) (T := TX7) (ci := 7) (N := 0) (C := RX7) hx hb hml hown hE hT (c_X7_tells_0 l G  (B + 1 + 28) (B + 109) (gAst α (nI j) (π 3 j)) (by omega) 0 gAst_0 j (π 3 j) gAst_1 gAst_2 (by omega) x) gM_X7_tells gm_X11_243 gi_X7_tells gs_RX7_yX7_tells_yX7_tells gx_936 gi_X7_tells gc_X7_tells ⟨by decide, by decide, by decide +kernel⟩ rfl (hk7 0 _ rfl) ⟨hk7, zA⟩ rfl hl.1 ⟨rfl, rfl⟩ ⟨Nat.le_of_ble_eq_true rfl, Nat.le_of_ble_eq_true rfl⟩ ⟨Nat.zero_le _, Nat.zero_le _⟩ rfl (Nat.le_of_ble_eq_true rfl) dX11_act_121) hS (by intro q hq; omega) (fun r32 H29 locs q30 k31 hS => ?_)
            obtain ⟨e9, hk7, zA⟩ := q30
            have e9 : _ = (gTel j (π 3 j) 0 0 x).1 := e9
            rw [e9]
            have zO := gSg_free zO k31 (by intro k hk q; simp only [List.length_cons, List.length_nil] at hk; omega)
            have h1 := gSg_free h1 k31 (by intro k hk q; simp only [List.length_cons, List.length_nil] at hk; omega)
            have h2 := gSg_free h2 k31 (by intro k hk q; simp only [List.length_cons, List.length_nil] at hk; omega)
            have zT := gSg_free zT k31 (by intro k hk q; simp only [List.length_cons, List.length_nil] at hk; omega)
            have zKT := gSg_free zKT k31 (by intro k hk q; simp only [List.length_cons, List.length_nil] at hk; omega)
            have zE := gSg_free zE k31 (by intro k hk q; simp only [List.length_cons, List.length_nil] at hk; omega)
            have zB := gSg_free zB k31 (by intro k hk q; simp only [List.length_cons, List.length_nil] at hk; omega)
            have zF := gSg_free zF k31 (by intro k hk q; simp only [List.length_cons, List.length_nil] at hk; omega)
            have zN := gSg_free zN k31 (by intro k hk q; simp only [List.length_cons, List.length_nil] at hk; omega)
            have zP := gSg_free zP k31 (by intro k hk q; simp only [List.length_cons, List.length_nil] at hk; omega)
            have zG := gRows_free zG k31 (by intro k hk q; omega)
            have zA : gSg G (B + 109) (gLA G (B + 109) (gTbs (gAst α (nI j) (π 3 j)) (gTel j (π 3 j) 0 0 x).2)) H29 := zA
            rw [← hQ]
            exact g_iret hx hb hr hlk hS dX11_act_124 (by rw [show gqAct π μ (nI j) a x = ((gTel j (π 3 j) 0 0 x).1, gTrs (gU μ 4 1 0) (gTel j (π 3 j) 0 0 x).2) from by simp only [gqAct, if_pos c5, if_pos c14, nI_clamp (show j < 2 ^ 31 by omega), gAct, ec, if_neg c19, if_neg c24], show gqActA π α (nI j) a x = gTbs (gAst α (nI j) (π 3 j)) (gTel j (π 3 j) 0 0 x).2 from by simp only [gqActA, if_pos c5, if_pos c14, nI_clamp (show j < 2 ^ 31 by omega), gAct, ec, if_neg c19, if_neg c24]]; exact ⟨rfl, _, hrr, zO, h1, hk7, ⟨_, h2⟩, ⟨_, _, _, zT⟩, zKT, ⟨_, hrk, zE⟩, zB, zF, ⟨_, zN⟩, zA, zP, zG⟩)
      · refine lv_aload_n hx hb dX11_act_44 rfl (lv_at hl 0 rfl) ?_
        refine g_get (v := .ref (B + 1)) (T := TX11) (ci := 11) (N := 13) hx hb hown hK (gY_X11 hT) rfl (zO 0 _ rfl) 0 (by decide) (hT _ gf_X11_12) rfl dX11_act_45 ?_
        refine g_get (v := .ref (B + 1 + 1)) (T := TX9) (ci := 9) (N := 16) hx hb hown hK (gY_X9 hT) rfl (h1 0 _ rfl) 0 (by decide) (hT _ gf_X11_230) rfl dX11_act_48 ?_
        refine lv_aload_n hx hb dX11_act_51 rfl (lv_at hl 0 rfl) ?_
        refine g_get (v := .ref (B + 1)) (T := TX11) (ci := 11) (N := 13) hx hb hown hK (gY_X11 hT) rfl (zO 0 _ rfl) 0 (by decide) (hT _ gf_X11_12) rfl dX11_act_52 ?_
        refine g_get (v := .ref (B + 1 + 4)) (T := TX9) (ci := 9) (N := 16) hx hb hown hK (gY_X9 hT) rfl (h1 0 _ rfl) 3 (by decide) (hT _ gf_X11_73) rfl dX11_act_55 ?_
        refine lv_iload_n hx hb dX11_act_58 rfl (lv_at hl 1 rfl) ?_
        refine g_ia (j := j) (v := π 2 j) hx hb hK (h1 4 _ rfl) rfl (by omega) (Nat.le_of_ble_eq_true rfl) rfl dX11_act_59 ?_
        refine g_aa5 (j := 1) (v := .ref (B + 1 + 28 + 1)) hx hb hK (h1 1 _ rfl) ek (by omega) (Nat.le_of_ble_eq_true rfl) rfl dX11_act_60 ?_
        refine lv_astore (lv' := [(4, .ref (B + 1 + 28 + 1)), (0, .ref B), (1, .int (nI j)), (2, .int a), (3, .int x)]) hx hb dX11_act_61 hl (by decide) rfl (fun ls hl => ?_)
        refine lv_iload_n hx hb dX11_act_63 rfl (lv_at hl 3 rfl) ?_
        by_cases c33 : a = 0
        · refine lv_lookup (off := 28) (tgt := 92) hx hb dX11_act_64 (by decide) (by rw [c33]; rfl) (by decide) ?_
          refine lv_aload hx hb dX11_act_92 (lv_at hl 0 rfl) ?_
          refine lv_aload_n hx hb dX11_act_94 rfl (lv_at hl 1 rfl) ?_
          refine g_get (v := .ref (B + 109)) (T := TX11) (ci := 11) (N := 13) hx hb hown hK (gY_X11 hT) rfl (zO 0 _ rfl) 9 (by decide) (hT _ gf_X11_41) rfl dX11_act_95 ?_
          refine lv_iload_n hx hb dX11_act_98 rfl (lv_at hl 4 rfl) ?_
          refine g_ki (g_runW (x := yX7_coos) (rest := []) (T := TX2) (ci := 2) (N := 0) (C := RX2) hx hb hml hown hE hT (c_X7_coos l G (B + 1 + 28 + 1) (B + 1 + 28) (B + 109) (gAst α (nI j) (π 3 j)) (by omega) 0 gAst_0 j (π 3 j) gAst_1 gAst_2 (by omega) x) gM_X7_coos gm_X11_234 gi_X7_coos gs_RX2_GoodNewsPigeons_Pigeon_coos_LGoodNewsPigeons_Act_I_I_yX7_coos gx_879 gi_X7_coos gc_X7_coos ⟨by decide, by decide, by decide +kernel⟩ rfl (hk7 1 _ rfl) zA rfl hl.1 ⟨rfl, rfl⟩ ⟨Nat.le_of_ble_eq_true rfl, Nat.le_of_ble_eq_true rfl⟩ ⟨Nat.zero_le _, Nat.zero_le _⟩ rfl (Nat.le_of_ble_eq_true rfl) dX11_act_99) hS (by intro q hq; omega) (fun r37 H34 locs q35 k36 hS => ?_)
          obtain ⟨e9, zA⟩ := q35
          have e9 : _ = (gCoo j (π 3 j) 1 x).1 := e9
          rw [e9]
          have zO := gSg_free zO k36 (by intro k hk q; simp only [List.length_cons, List.length_nil] at hk; omega)
          have h1 := gSg_free h1 k36 (by intro k hk q; simp only [List.length_cons, List.length_nil] at hk; omega)
          have hk7 := gSg_free hk7 k36 (by intro k hk q; simp only [List.length_cons, List.length_nil] at hk; omega)
          have h2 := gSg_free h2 k36 (by intro k hk q; simp only [List.length_cons, List.length_nil] at hk; omega)
          have zT := gSg_free zT k36 (by intro k hk q; simp only [List.length_cons, List.length_nil] at hk; omega)
          have zKT := gSg_free zKT k36 (by intro k hk q; simp only [List.length_cons, List.length_nil] at hk; omega)
          have zE := gSg_free zE k36 (by intro k hk q; simp only [List.length_cons, List.length_nil] at hk; omega)
          have zB := gSg_free zB k36 (by intro k hk q; simp only [List.length_cons, List.length_nil] at hk; omega)
          have zF := gSg_free zF k36 (by intro k hk q; simp only [List.length_cons, List.length_nil] at hk; omega)
          have zN := gSg_free zN k36 (by intro k hk q; simp only [List.length_cons, List.length_nil] at hk; omega)
          have zP := gSg_free zP k36 (by intro k hk q; simp only [List.length_cons, List.length_nil] at hk; omega)
          have zG := gRows_free zG k36 (by intro k hk q; omega)
          have zA : gSg G (B + 109) (gLA G (B + 109) (gTbs (gAst α (nI j) (π 3 j)) (gCoo j (π 3 j) 1 x).2)) H34 := zA
          rw [← hQ]
          exact g_iret hx hb hr hlk hS dX11_act_102 (by rw [show gqAct π μ (nI j) a x = ((gCoo j (π 3 j) 1 x).1, gTrs (gU μ 4 1 0) (gCoo j (π 3 j) 1 x).2) from by simp only [gqAct, if_pos c5, if_pos c14, nI_clamp (show j < 2 ^ 31 by omega), gAct, ec, if_pos c33], show gqActA π α (nI j) a x = gTbs (gAst α (nI j) (π 3 j)) (gCoo j (π 3 j) 1 x).2 from by simp only [gqActA, if_pos c5, if_pos c14, nI_clamp (show j < 2 ^ 31 by omega), gAct, ec, if_pos c33]]; exact ⟨rfl, _, hrr, zO, h1, hk7, ⟨_, h2⟩, ⟨_, _, _, zT⟩, zKT, ⟨_, hrk, zE⟩, zB, zF, ⟨_, zN⟩, zA, zP, zG⟩)
        · skip
          by_cases c38 : a = 1
          · refine lv_lookup (off := 39) (tgt := 103) hx hb dX11_act_64 (by decide) (by rw [c38]; rfl) (by decide) ?_
            refine lv_aload hx hb dX11_act_103 (lv_at hl 0 rfl) ?_
            refine lv_aload_n hx hb dX11_act_105 rfl (lv_at hl 1 rfl) ?_
            refine g_get (v := .ref (B + 109)) (T := TX11) (ci := 11) (N := 13) hx hb hown hK (gY_X11 hT) rfl (zO 0 _ rfl) 9 (by decide) (hT _ gf_X11_41) rfl dX11_act_106 ?_
            refine lv_iload_n hx hb dX11_act_109 rfl (lv_at hl 4 rfl) ?_
            refine g_ki (g_runW (x := yX7_flies) (rest := []) (T := TX2) (ci := 2) (N := 0) (C := RX2) hx hb hml hown hE hT (c_X2_flies_1 l G  (B + 1 + 28) (B + 109) (gAst α (nI j) (π 3 j)) (by omega) 0 gAst_0 j (π 3 j) gAst_1 gAst_2 (by omega) x) gM_X2_flies gm_X11_240 gi_X2_flies gs_RX2_GoodNewsPigeons_Pigeon_flies_LGoodNewsPigeons_Act_I_I_yX2_flies gx_909 gi_X7_flies gc_X7_flies ⟨by decide, by decide, by decide +kernel⟩ rfl (hk7 1 _ rfl) ⟨hk7, zA⟩ rfl hl.1 ⟨rfl, rfl⟩ ⟨Nat.le_of_ble_eq_true rfl, Nat.le_of_ble_eq_true rfl⟩ ⟨Nat.zero_le _, Nat.zero_le _⟩ rfl (Nat.le_of_ble_eq_true rfl) dX11_act_110) hS (by intro q hq; omega) (fun r42 H39 locs q40 k41 hS => ?_)
            obtain ⟨e9, hk7, zA⟩ := q40
            have e9 : _ = (gFli j (π 3 j) 1 1 x).1 := e9
            rw [e9]
            have zO := gSg_free zO k41 (by intro k hk q; simp only [List.length_cons, List.length_nil] at hk; omega)
            have h1 := gSg_free h1 k41 (by intro k hk q; simp only [List.length_cons, List.length_nil] at hk; omega)
            have h2 := gSg_free h2 k41 (by intro k hk q; simp only [List.length_cons, List.length_nil] at hk; omega)
            have zT := gSg_free zT k41 (by intro k hk q; simp only [List.length_cons, List.length_nil] at hk; omega)
            have zKT := gSg_free zKT k41 (by intro k hk q; simp only [List.length_cons, List.length_nil] at hk; omega)
            have zE := gSg_free zE k41 (by intro k hk q; simp only [List.length_cons, List.length_nil] at hk; omega)
            have zB := gSg_free zB k41 (by intro k hk q; simp only [List.length_cons, List.length_nil] at hk; omega)
            have zF := gSg_free zF k41 (by intro k hk q; simp only [List.length_cons, List.length_nil] at hk; omega)
            have zN := gSg_free zN k41 (by intro k hk q; simp only [List.length_cons, List.length_nil] at hk; omega)
            have zP := gSg_free zP k41 (by intro k hk q; simp only [List.length_cons, List.length_nil] at hk; omega)
            have zG := gRows_free zG k41 (by intro k hk q; omega)
            have zA : gSg G (B + 109) (gLA G (B + 109) (gTbs (gAst α (nI j) (π 3 j)) (gFli j (π 3 j) 1 1 x).2)) H39 := zA
            rw [← hQ]
            exact g_iret hx hb hr hlk hS dX11_act_113 (by rw [show gqAct π μ (nI j) a x = ((gFli j (π 3 j) 1 1 x).1, gTrs (gU μ 4 1 0) (gFli j (π 3 j) 1 1 x).2) from by simp only [gqAct, if_pos c5, if_pos c14, nI_clamp (show j < 2 ^ 31 by omega), gAct, ec, if_neg c33, if_pos c38], show gqActA π α (nI j) a x = gTbs (gAst α (nI j) (π 3 j)) (gFli j (π 3 j) 1 1 x).2 from by simp only [gqActA, if_pos c5, if_pos c14, nI_clamp (show j < 2 ^ 31 by omega), gAct, ec, if_neg c33, if_pos c38]]; exact ⟨rfl, _, hrr, zO, h1, hk7, ⟨_, h2⟩, ⟨_, _, _, zT⟩, zKT, ⟨_, hrk, zE⟩, zB, zF, ⟨_, zN⟩, zA, zP, zG⟩)
          · skip
            refine lv_lookup (off := 50) (tgt := 114) hx hb dX11_act_64 (by decide) (by show Op.lookupswitch.offset [(0, 28), (1, 39)] 50 _ = _; rw [lv_osw (a := 0) c33 (by decide), lv_osw (a := 1) c38 (by decide)]; rfl) (by decide) ?_
            refine lv_aload hx hb dX11_act_114 (lv_at hl 0 rfl) ?_
            refine lv_aload_n hx hb dX11_act_116 rfl (lv_at hl 1 rfl) ?_
            refine g_get (v := .ref (B + 109)) (T := TX11) (ci := 11) (N := 13) hx hb hown hK (gY_X11 hT) rfl (zO 0 _ rfl) 9 (by decide) (hT _ gf_X11_41) rfl dX11_act_117 ?_
            refine lv_iload_n hx hb dX11_act_120 rfl (lv_at hl 4 rfl) ?_
            refine g_ki (g_runW (x := yX7_tells) (rest := []) (T := TX2) (ci := 2) (N := 0) (C := RX2) hx hb hml hown hE hT (c_X7_tells_1 l G  (B + 1 + 28) (B + 109) (gAst α (nI j) (π 3 j)) (by omega) 0 gAst_0 j (π 3 j) gAst_1 gAst_2 (by omega) x) gM_X7_tells gm_X11_243 gi_X7_tells gs_RX2_GoodNewsPigeons_Pigeon_tells_LGoodNewsPigeons_Act_I_I_yX7_tells gx_936 gi_X7_tells gc_X7_tells ⟨by decide, by decide, by decide +kernel⟩ rfl (hk7 1 _ rfl) ⟨hk7, zA⟩ rfl hl.1 ⟨rfl, rfl⟩ ⟨Nat.le_of_ble_eq_true rfl, Nat.le_of_ble_eq_true rfl⟩ ⟨Nat.zero_le _, Nat.zero_le _⟩ rfl (Nat.le_of_ble_eq_true rfl) dX11_act_121) hS (by intro q hq; omega) (fun r46 H43 locs q44 k45 hS => ?_)
            obtain ⟨e9, hk7, zA⟩ := q44
            have e9 : _ = (gTel j (π 3 j) 1 1 x).1 := e9
            rw [e9]
            have zO := gSg_free zO k45 (by intro k hk q; simp only [List.length_cons, List.length_nil] at hk; omega)
            have h1 := gSg_free h1 k45 (by intro k hk q; simp only [List.length_cons, List.length_nil] at hk; omega)
            have h2 := gSg_free h2 k45 (by intro k hk q; simp only [List.length_cons, List.length_nil] at hk; omega)
            have zT := gSg_free zT k45 (by intro k hk q; simp only [List.length_cons, List.length_nil] at hk; omega)
            have zKT := gSg_free zKT k45 (by intro k hk q; simp only [List.length_cons, List.length_nil] at hk; omega)
            have zE := gSg_free zE k45 (by intro k hk q; simp only [List.length_cons, List.length_nil] at hk; omega)
            have zB := gSg_free zB k45 (by intro k hk q; simp only [List.length_cons, List.length_nil] at hk; omega)
            have zF := gSg_free zF k45 (by intro k hk q; simp only [List.length_cons, List.length_nil] at hk; omega)
            have zN := gSg_free zN k45 (by intro k hk q; simp only [List.length_cons, List.length_nil] at hk; omega)
            have zP := gSg_free zP k45 (by intro k hk q; simp only [List.length_cons, List.length_nil] at hk; omega)
            have zG := gRows_free zG k45 (by intro k hk q; omega)
            have zA : gSg G (B + 109) (gLA G (B + 109) (gTbs (gAst α (nI j) (π 3 j)) (gTel j (π 3 j) 1 1 x).2)) H43 := zA
            rw [← hQ]
            exact g_iret hx hb hr hlk hS dX11_act_124 (by rw [show gqAct π μ (nI j) a x = ((gTel j (π 3 j) 1 1 x).1, gTrs (gU μ 4 1 0) (gTel j (π 3 j) 1 1 x).2) from by simp only [gqAct, if_pos c5, if_pos c14, nI_clamp (show j < 2 ^ 31 by omega), gAct, ec, if_neg c33, if_neg c38], show gqActA π α (nI j) a x = gTbs (gAst α (nI j) (π 3 j)) (gTel j (π 3 j) 1 1 x).2 from by simp only [gqActA, if_pos c5, if_pos c14, nI_clamp (show j < 2 ^ 31 by omega), gAct, ec, if_neg c33, if_neg c38]]; exact ⟨rfl, _, hrr, zO, h1, hk7, ⟨_, h2⟩, ⟨_, _, _, zT⟩, zKT, ⟨_, hrk, zE⟩, zB, zF, ⟨_, zN⟩, zA, zP, zG⟩)
      · refine lv_aload_n hx hb dX11_act_44 rfl (lv_at hl 0 rfl) ?_
        refine g_get (v := .ref (B + 1)) (T := TX11) (ci := 11) (N := 13) hx hb hown hK (gY_X11 hT) rfl (zO 0 _ rfl) 0 (by decide) (hT _ gf_X11_12) rfl dX11_act_45 ?_
        refine g_get (v := .ref (B + 1 + 1)) (T := TX9) (ci := 9) (N := 16) hx hb hown hK (gY_X9 hT) rfl (h1 0 _ rfl) 0 (by decide) (hT _ gf_X11_230) rfl dX11_act_48 ?_
        refine lv_aload_n hx hb dX11_act_51 rfl (lv_at hl 0 rfl) ?_
        refine g_get (v := .ref (B + 1)) (T := TX11) (ci := 11) (N := 13) hx hb hown hK (gY_X11 hT) rfl (zO 0 _ rfl) 0 (by decide) (hT _ gf_X11_12) rfl dX11_act_52 ?_
        refine g_get (v := .ref (B + 1 + 4)) (T := TX9) (ci := 9) (N := 16) hx hb hown hK (gY_X9 hT) rfl (h1 0 _ rfl) 3 (by decide) (hT _ gf_X11_73) rfl dX11_act_55 ?_
        refine lv_iload_n hx hb dX11_act_58 rfl (lv_at hl 1 rfl) ?_
        refine g_ia (j := j) (v := π 2 j) hx hb hK (h1 4 _ rfl) rfl (by omega) (Nat.le_of_ble_eq_true rfl) rfl dX11_act_59 ?_
        refine g_aa5 (j := 2) (v := .ref (B + 1 + 28 + 2)) hx hb hK (h1 1 _ rfl) ek (by omega) (Nat.le_of_ble_eq_true rfl) rfl dX11_act_60 ?_
        refine lv_astore (lv' := [(4, .ref (B + 1 + 28 + 2)), (0, .ref B), (1, .int (nI j)), (2, .int a), (3, .int x)]) hx hb dX11_act_61 hl (by decide) rfl (fun ls hl => ?_)
        refine lv_iload_n hx hb dX11_act_63 rfl (lv_at hl 3 rfl) ?_
        by_cases c47 : a = 0
        · refine lv_lookup (off := 28) (tgt := 92) hx hb dX11_act_64 (by decide) (by rw [c47]; rfl) (by decide) ?_
          refine lv_aload hx hb dX11_act_92 (lv_at hl 0 rfl) ?_
          refine lv_aload_n hx hb dX11_act_94 rfl (lv_at hl 1 rfl) ?_
          refine g_get (v := .ref (B + 109)) (T := TX11) (ci := 11) (N := 13) hx hb hown hK (gY_X11 hT) rfl (zO 0 _ rfl) 9 (by decide) (hT _ gf_X11_41) rfl dX11_act_95 ?_
          refine lv_iload_n hx hb dX11_act_98 rfl (lv_at hl 4 rfl) ?_
          refine g_ki (g_runW (x := yX7_coos) (rest := []) (T := TX1) (ci := 1) (N := 0) (C := RX1) hx hb hml hown hE hT (c_X1_coos_2 l G  (B + 1 + 28) (B + 109) (gAst α (nI j) (π 3 j)) (by omega) 0 gAst_0 j (π 3 j) gAst_1 gAst_2 (by omega) x) gM_X1_coos gm_X11_234 gi_X1_coos gs_RX1_GoodNewsPigeons_Pigeon_coos_LGoodNewsPigeons_Act_I_I_yX1_coos gx_879 gi_X7_coos gc_X7_coos ⟨by decide, by decide, by decide +kernel⟩ rfl (hk7 2 _ rfl) ⟨hk7, zA⟩ rfl hl.1 ⟨rfl, rfl⟩ ⟨Nat.le_of_ble_eq_true rfl, Nat.le_of_ble_eq_true rfl⟩ ⟨Nat.zero_le _, Nat.zero_le _⟩ rfl (Nat.le_of_ble_eq_true rfl) dX11_act_99) hS (by intro q hq; omega) (fun r51 H48 locs q49 k50 hS => ?_)
          obtain ⟨e9, hk7, zA⟩ := q49
          have e9 : _ = (gCoo j (π 3 j) 2 x).1 := e9
          rw [e9]
          have zO := gSg_free zO k50 (by intro k hk q; simp only [List.length_cons, List.length_nil] at hk; omega)
          have h1 := gSg_free h1 k50 (by intro k hk q; simp only [List.length_cons, List.length_nil] at hk; omega)
          have h2 := gSg_free h2 k50 (by intro k hk q; simp only [List.length_cons, List.length_nil] at hk; omega)
          have zT := gSg_free zT k50 (by intro k hk q; simp only [List.length_cons, List.length_nil] at hk; omega)
          have zKT := gSg_free zKT k50 (by intro k hk q; simp only [List.length_cons, List.length_nil] at hk; omega)
          have zE := gSg_free zE k50 (by intro k hk q; simp only [List.length_cons, List.length_nil] at hk; omega)
          have zB := gSg_free zB k50 (by intro k hk q; simp only [List.length_cons, List.length_nil] at hk; omega)
          have zF := gSg_free zF k50 (by intro k hk q; simp only [List.length_cons, List.length_nil] at hk; omega)
          have zN := gSg_free zN k50 (by intro k hk q; simp only [List.length_cons, List.length_nil] at hk; omega)
          have zP := gSg_free zP k50 (by intro k hk q; simp only [List.length_cons, List.length_nil] at hk; omega)
          have zG := gRows_free zG k50 (by intro k hk q; omega)
          have zA : gSg G (B + 109) (gLA G (B + 109) (gTbs (gAst α (nI j) (π 3 j)) (gCoo j (π 3 j) 2 x).2)) H48 := zA
          rw [← hQ]
          exact g_iret hx hb hr hlk hS dX11_act_102 (by rw [show gqAct π μ (nI j) a x = ((gCoo j (π 3 j) 2 x).1, gTrs (gU μ 4 1 0) (gCoo j (π 3 j) 2 x).2) from by simp only [gqAct, if_pos c5, if_pos c14, nI_clamp (show j < 2 ^ 31 by omega), gAct, ec, if_pos c47], show gqActA π α (nI j) a x = gTbs (gAst α (nI j) (π 3 j)) (gCoo j (π 3 j) 2 x).2 from by simp only [gqActA, if_pos c5, if_pos c14, nI_clamp (show j < 2 ^ 31 by omega), gAct, ec, if_pos c47]]; exact ⟨rfl, _, hrr, zO, h1, hk7, ⟨_, h2⟩, ⟨_, _, _, zT⟩, zKT, ⟨_, hrk, zE⟩, zB, zF, ⟨_, zN⟩, zA, zP, zG⟩)
        · skip
          by_cases c52 : a = 1
          · refine lv_lookup (off := 39) (tgt := 103) hx hb dX11_act_64 (by decide) (by rw [c52]; rfl) (by decide) ?_
            refine lv_aload hx hb dX11_act_103 (lv_at hl 0 rfl) ?_
            refine lv_aload_n hx hb dX11_act_105 rfl (lv_at hl 1 rfl) ?_
            refine g_get (v := .ref (B + 109)) (T := TX11) (ci := 11) (N := 13) hx hb hown hK (gY_X11 hT) rfl (zO 0 _ rfl) 9 (by decide) (hT _ gf_X11_41) rfl dX11_act_106 ?_
            refine lv_iload_n hx hb dX11_act_109 rfl (lv_at hl 4 rfl) ?_
            refine g_ki (g_runW (x := yX7_flies) (rest := []) (T := TX1) (ci := 1) (N := 0) (C := RX1) hx hb hml hown hE hT (c_X7_flies_2 l G  (B + 1 + 28) (B + 109) (gAst α (nI j) (π 3 j)) (by omega) 0 gAst_0 j (π 3 j) gAst_1 gAst_2 (by omega) x) gM_X7_flies gm_X11_240 gi_X7_flies gs_RX1_GoodNewsPigeons_Pigeon_flies_LGoodNewsPigeons_Act_I_I_yX7_flies gx_909 gi_X7_flies gc_X7_flies ⟨by decide, by decide, by decide +kernel⟩ rfl (hk7 2 _ rfl) ⟨hk7, zA⟩ rfl hl.1 ⟨rfl, rfl⟩ ⟨Nat.le_of_ble_eq_true rfl, Nat.le_of_ble_eq_true rfl⟩ ⟨Nat.zero_le _, Nat.zero_le _⟩ rfl (Nat.le_of_ble_eq_true rfl) dX11_act_110) hS (by intro q hq; omega) (fun r56 H53 locs q54 k55 hS => ?_)
            obtain ⟨e9, hk7, zA⟩ := q54
            have e9 : _ = (gFli j (π 3 j) 2 2 x).1 := e9
            rw [e9]
            have zO := gSg_free zO k55 (by intro k hk q; simp only [List.length_cons, List.length_nil] at hk; omega)
            have h1 := gSg_free h1 k55 (by intro k hk q; simp only [List.length_cons, List.length_nil] at hk; omega)
            have h2 := gSg_free h2 k55 (by intro k hk q; simp only [List.length_cons, List.length_nil] at hk; omega)
            have zT := gSg_free zT k55 (by intro k hk q; simp only [List.length_cons, List.length_nil] at hk; omega)
            have zKT := gSg_free zKT k55 (by intro k hk q; simp only [List.length_cons, List.length_nil] at hk; omega)
            have zE := gSg_free zE k55 (by intro k hk q; simp only [List.length_cons, List.length_nil] at hk; omega)
            have zB := gSg_free zB k55 (by intro k hk q; simp only [List.length_cons, List.length_nil] at hk; omega)
            have zF := gSg_free zF k55 (by intro k hk q; simp only [List.length_cons, List.length_nil] at hk; omega)
            have zN := gSg_free zN k55 (by intro k hk q; simp only [List.length_cons, List.length_nil] at hk; omega)
            have zP := gSg_free zP k55 (by intro k hk q; simp only [List.length_cons, List.length_nil] at hk; omega)
            have zG := gRows_free zG k55 (by intro k hk q; omega)
            have zA : gSg G (B + 109) (gLA G (B + 109) (gTbs (gAst α (nI j) (π 3 j)) (gFli j (π 3 j) 2 2 x).2)) H53 := zA
            rw [← hQ]
            exact g_iret hx hb hr hlk hS dX11_act_113 (by rw [show gqAct π μ (nI j) a x = ((gFli j (π 3 j) 2 2 x).1, gTrs (gU μ 4 1 0) (gFli j (π 3 j) 2 2 x).2) from by simp only [gqAct, if_pos c5, if_pos c14, nI_clamp (show j < 2 ^ 31 by omega), gAct, ec, if_neg c47, if_pos c52], show gqActA π α (nI j) a x = gTbs (gAst α (nI j) (π 3 j)) (gFli j (π 3 j) 2 2 x).2 from by simp only [gqActA, if_pos c5, if_pos c14, nI_clamp (show j < 2 ^ 31 by omega), gAct, ec, if_neg c47, if_pos c52]]; exact ⟨rfl, _, hrr, zO, h1, hk7, ⟨_, h2⟩, ⟨_, _, _, zT⟩, zKT, ⟨_, hrk, zE⟩, zB, zF, ⟨_, zN⟩, zA, zP, zG⟩)
          · skip
            refine lv_lookup (off := 50) (tgt := 114) hx hb dX11_act_64 (by decide) (by show Op.lookupswitch.offset [(0, 28), (1, 39)] 50 _ = _; rw [lv_osw (a := 0) c47 (by decide), lv_osw (a := 1) c52 (by decide)]; rfl) (by decide) ?_
            refine lv_aload hx hb dX11_act_114 (lv_at hl 0 rfl) ?_
            refine lv_aload_n hx hb dX11_act_116 rfl (lv_at hl 1 rfl) ?_
            refine g_get (v := .ref (B + 109)) (T := TX11) (ci := 11) (N := 13) hx hb hown hK (gY_X11 hT) rfl (zO 0 _ rfl) 9 (by decide) (hT _ gf_X11_41) rfl dX11_act_117 ?_
            refine lv_iload_n hx hb dX11_act_120 rfl (lv_at hl 4 rfl) ?_
            refine g_ki (g_runW (x := yX7_tells) (rest := []) (T := TX1) (ci := 1) (N := 0) (C := RX1) hx hb hml hown hE hT (c_X7_tells_2 l G  (B + 1 + 28) (B + 109) (gAst α (nI j) (π 3 j)) (by omega) 0 gAst_0 j (π 3 j) gAst_1 gAst_2 (by omega) x) gM_X7_tells gm_X11_243 gi_X7_tells gs_RX1_GoodNewsPigeons_Pigeon_tells_LGoodNewsPigeons_Act_I_I_yX7_tells gx_936 gi_X7_tells gc_X7_tells ⟨by decide, by decide, by decide +kernel⟩ rfl (hk7 2 _ rfl) ⟨hk7, zA⟩ rfl hl.1 ⟨rfl, rfl⟩ ⟨Nat.le_of_ble_eq_true rfl, Nat.le_of_ble_eq_true rfl⟩ ⟨Nat.zero_le _, Nat.zero_le _⟩ rfl (Nat.le_of_ble_eq_true rfl) dX11_act_121) hS (by intro q hq; omega) (fun r60 H57 locs q58 k59 hS => ?_)
            obtain ⟨e9, hk7, zA⟩ := q58
            have e9 : _ = (gTel j (π 3 j) 2 2 x).1 := e9
            rw [e9]
            have zO := gSg_free zO k59 (by intro k hk q; simp only [List.length_cons, List.length_nil] at hk; omega)
            have h1 := gSg_free h1 k59 (by intro k hk q; simp only [List.length_cons, List.length_nil] at hk; omega)
            have h2 := gSg_free h2 k59 (by intro k hk q; simp only [List.length_cons, List.length_nil] at hk; omega)
            have zT := gSg_free zT k59 (by intro k hk q; simp only [List.length_cons, List.length_nil] at hk; omega)
            have zKT := gSg_free zKT k59 (by intro k hk q; simp only [List.length_cons, List.length_nil] at hk; omega)
            have zE := gSg_free zE k59 (by intro k hk q; simp only [List.length_cons, List.length_nil] at hk; omega)
            have zB := gSg_free zB k59 (by intro k hk q; simp only [List.length_cons, List.length_nil] at hk; omega)
            have zF := gSg_free zF k59 (by intro k hk q; simp only [List.length_cons, List.length_nil] at hk; omega)
            have zN := gSg_free zN k59 (by intro k hk q; simp only [List.length_cons, List.length_nil] at hk; omega)
            have zP := gSg_free zP k59 (by intro k hk q; simp only [List.length_cons, List.length_nil] at hk; omega)
            have zG := gRows_free zG k59 (by intro k hk q; omega)
            have zA : gSg G (B + 109) (gLA G (B + 109) (gTbs (gAst α (nI j) (π 3 j)) (gTel j (π 3 j) 2 2 x).2)) H57 := zA
            rw [← hQ]
            exact g_iret hx hb hr hlk hS dX11_act_124 (by rw [show gqAct π μ (nI j) a x = ((gTel j (π 3 j) 2 2 x).1, gTrs (gU μ 4 1 0) (gTel j (π 3 j) 2 2 x).2) from by simp only [gqAct, if_pos c5, if_pos c14, nI_clamp (show j < 2 ^ 31 by omega), gAct, ec, if_neg c47, if_neg c52], show gqActA π α (nI j) a x = gTbs (gAst α (nI j) (π 3 j)) (gTel j (π 3 j) 2 2 x).2 from by simp only [gqActA, if_pos c5, if_pos c14, nI_clamp (show j < 2 ^ 31 by omega), gAct, ec, if_neg c47, if_neg c52]]; exact ⟨rfl, _, hrr, zO, h1, hk7, ⟨_, h2⟩, ⟨_, _, _, zT⟩, zKT, ⟨_, hrk, zE⟩, zB, zF, ⟨_, zN⟩, zA, zP, zG⟩)
      · refine lv_aload_n hx hb dX11_act_44 rfl (lv_at hl 0 rfl) ?_
        refine g_get (v := .ref (B + 1)) (T := TX11) (ci := 11) (N := 13) hx hb hown hK (gY_X11 hT) rfl (zO 0 _ rfl) 0 (by decide) (hT _ gf_X11_12) rfl dX11_act_45 ?_
        refine g_get (v := .ref (B + 1 + 1)) (T := TX9) (ci := 9) (N := 16) hx hb hown hK (gY_X9 hT) rfl (h1 0 _ rfl) 0 (by decide) (hT _ gf_X11_230) rfl dX11_act_48 ?_
        refine lv_aload_n hx hb dX11_act_51 rfl (lv_at hl 0 rfl) ?_
        refine g_get (v := .ref (B + 1)) (T := TX11) (ci := 11) (N := 13) hx hb hown hK (gY_X11 hT) rfl (zO 0 _ rfl) 0 (by decide) (hT _ gf_X11_12) rfl dX11_act_52 ?_
        refine g_get (v := .ref (B + 1 + 4)) (T := TX9) (ci := 9) (N := 16) hx hb hown hK (gY_X9 hT) rfl (h1 0 _ rfl) 3 (by decide) (hT _ gf_X11_73) rfl dX11_act_55 ?_
        refine lv_iload_n hx hb dX11_act_58 rfl (lv_at hl 1 rfl) ?_
        refine g_ia (j := j) (v := π 2 j) hx hb hK (h1 4 _ rfl) rfl (by omega) (Nat.le_of_ble_eq_true rfl) rfl dX11_act_59 ?_
        refine g_aa5 (j := 3) (v := .ref (B + 1 + 28 + 3)) hx hb hK (h1 1 _ rfl) ek (by omega) (Nat.le_of_ble_eq_true rfl) rfl dX11_act_60 ?_
        refine lv_astore (lv' := [(4, .ref (B + 1 + 28 + 3)), (0, .ref B), (1, .int (nI j)), (2, .int a), (3, .int x)]) hx hb dX11_act_61 hl (by decide) rfl (fun ls hl => ?_)
        refine lv_iload_n hx hb dX11_act_63 rfl (lv_at hl 3 rfl) ?_
        by_cases c61 : a = 0
        · refine lv_lookup (off := 28) (tgt := 92) hx hb dX11_act_64 (by decide) (by rw [c61]; rfl) (by decide) ?_
          refine lv_aload hx hb dX11_act_92 (lv_at hl 0 rfl) ?_
          refine lv_aload_n hx hb dX11_act_94 rfl (lv_at hl 1 rfl) ?_
          refine g_get (v := .ref (B + 109)) (T := TX11) (ci := 11) (N := 13) hx hb hown hK (gY_X11 hT) rfl (zO 0 _ rfl) 9 (by decide) (hT _ gf_X11_41) rfl dX11_act_95 ?_
          refine lv_iload_n hx hb dX11_act_98 rfl (lv_at hl 4 rfl) ?_
          refine g_ki (g_runW (x := yX7_coos) (rest := []) (T := TX4) (ci := 4) (N := 0) (C := RX4) hx hb hml hown hE hT (c_X7_coos l G (B + 1 + 28 + 3) (B + 1 + 28) (B + 109) (gAst α (nI j) (π 3 j)) (by omega) 0 gAst_0 j (π 3 j) gAst_1 gAst_2 (by omega) x) gM_X7_coos gm_X11_234 gi_X7_coos gs_RX4_GoodNewsPigeons_Pigeon_coos_LGoodNewsPigeons_Act_I_I_yX7_coos gx_879 gi_X7_coos gc_X7_coos ⟨by decide, by decide, by decide +kernel⟩ rfl (hk7 3 _ rfl) zA rfl hl.1 ⟨rfl, rfl⟩ ⟨Nat.le_of_ble_eq_true rfl, Nat.le_of_ble_eq_true rfl⟩ ⟨Nat.zero_le _, Nat.zero_le _⟩ rfl (Nat.le_of_ble_eq_true rfl) dX11_act_99) hS (by intro q hq; omega) (fun r65 H62 locs q63 k64 hS => ?_)
          obtain ⟨e9, zA⟩ := q63
          have e9 : _ = (gCoo j (π 3 j) 3 x).1 := e9
          rw [e9]
          have zO := gSg_free zO k64 (by intro k hk q; simp only [List.length_cons, List.length_nil] at hk; omega)
          have h1 := gSg_free h1 k64 (by intro k hk q; simp only [List.length_cons, List.length_nil] at hk; omega)
          have hk7 := gSg_free hk7 k64 (by intro k hk q; simp only [List.length_cons, List.length_nil] at hk; omega)
          have h2 := gSg_free h2 k64 (by intro k hk q; simp only [List.length_cons, List.length_nil] at hk; omega)
          have zT := gSg_free zT k64 (by intro k hk q; simp only [List.length_cons, List.length_nil] at hk; omega)
          have zKT := gSg_free zKT k64 (by intro k hk q; simp only [List.length_cons, List.length_nil] at hk; omega)
          have zE := gSg_free zE k64 (by intro k hk q; simp only [List.length_cons, List.length_nil] at hk; omega)
          have zB := gSg_free zB k64 (by intro k hk q; simp only [List.length_cons, List.length_nil] at hk; omega)
          have zF := gSg_free zF k64 (by intro k hk q; simp only [List.length_cons, List.length_nil] at hk; omega)
          have zN := gSg_free zN k64 (by intro k hk q; simp only [List.length_cons, List.length_nil] at hk; omega)
          have zP := gSg_free zP k64 (by intro k hk q; simp only [List.length_cons, List.length_nil] at hk; omega)
          have zG := gRows_free zG k64 (by intro k hk q; omega)
          have zA : gSg G (B + 109) (gLA G (B + 109) (gTbs (gAst α (nI j) (π 3 j)) (gCoo j (π 3 j) 3 x).2)) H62 := zA
          rw [← hQ]
          exact g_iret hx hb hr hlk hS dX11_act_102 (by rw [show gqAct π μ (nI j) a x = ((gCoo j (π 3 j) 3 x).1, gTrs (gU μ 4 1 0) (gCoo j (π 3 j) 3 x).2) from by simp only [gqAct, if_pos c5, if_pos c14, nI_clamp (show j < 2 ^ 31 by omega), gAct, ec, if_pos c61], show gqActA π α (nI j) a x = gTbs (gAst α (nI j) (π 3 j)) (gCoo j (π 3 j) 3 x).2 from by simp only [gqActA, if_pos c5, if_pos c14, nI_clamp (show j < 2 ^ 31 by omega), gAct, ec, if_pos c61]]; exact ⟨rfl, _, hrr, zO, h1, hk7, ⟨_, h2⟩, ⟨_, _, _, zT⟩, zKT, ⟨_, hrk, zE⟩, zB, zF, ⟨_, zN⟩, zA, zP, zG⟩)
        · skip
          by_cases c66 : a = 1
          · refine lv_lookup (off := 39) (tgt := 103) hx hb dX11_act_64 (by decide) (by rw [c66]; rfl) (by decide) ?_
            refine lv_aload hx hb dX11_act_103 (lv_at hl 0 rfl) ?_
            refine lv_aload_n hx hb dX11_act_105 rfl (lv_at hl 1 rfl) ?_
            refine g_get (v := .ref (B + 109)) (T := TX11) (ci := 11) (N := 13) hx hb hown hK (gY_X11 hT) rfl (zO 0 _ rfl) 9 (by decide) (hT _ gf_X11_41) rfl dX11_act_106 ?_
            refine lv_iload_n hx hb dX11_act_109 rfl (lv_at hl 4 rfl) ?_
            refine g_ki (g_runW (x := yX7_flies) (rest := []) (T := TX4) (ci := 4) (N := 0) (C := RX4) hx hb hml hown hE hT (c_X7_flies_3 l G  (B + 1 + 28) (B + 109) (gAst α (nI j) (π 3 j)) (by omega) 0 gAst_0 j (π 3 j) gAst_1 gAst_2 (by omega) x) gM_X7_flies gm_X11_240 gi_X7_flies gs_RX4_GoodNewsPigeons_Pigeon_flies_LGoodNewsPigeons_Act_I_I_yX7_flies gx_909 gi_X7_flies gc_X7_flies ⟨by decide, by decide, by decide +kernel⟩ rfl (hk7 3 _ rfl) ⟨hk7, zA⟩ rfl hl.1 ⟨rfl, rfl⟩ ⟨Nat.le_of_ble_eq_true rfl, Nat.le_of_ble_eq_true rfl⟩ ⟨Nat.zero_le _, Nat.zero_le _⟩ rfl (Nat.le_of_ble_eq_true rfl) dX11_act_110) hS (by intro q hq; omega) (fun r70 H67 locs q68 k69 hS => ?_)
            obtain ⟨e9, hk7, zA⟩ := q68
            have e9 : _ = (gFli j (π 3 j) 3 3 x).1 := e9
            rw [e9]
            have zO := gSg_free zO k69 (by intro k hk q; simp only [List.length_cons, List.length_nil] at hk; omega)
            have h1 := gSg_free h1 k69 (by intro k hk q; simp only [List.length_cons, List.length_nil] at hk; omega)
            have h2 := gSg_free h2 k69 (by intro k hk q; simp only [List.length_cons, List.length_nil] at hk; omega)
            have zT := gSg_free zT k69 (by intro k hk q; simp only [List.length_cons, List.length_nil] at hk; omega)
            have zKT := gSg_free zKT k69 (by intro k hk q; simp only [List.length_cons, List.length_nil] at hk; omega)
            have zE := gSg_free zE k69 (by intro k hk q; simp only [List.length_cons, List.length_nil] at hk; omega)
            have zB := gSg_free zB k69 (by intro k hk q; simp only [List.length_cons, List.length_nil] at hk; omega)
            have zF := gSg_free zF k69 (by intro k hk q; simp only [List.length_cons, List.length_nil] at hk; omega)
            have zN := gSg_free zN k69 (by intro k hk q; simp only [List.length_cons, List.length_nil] at hk; omega)
            have zP := gSg_free zP k69 (by intro k hk q; simp only [List.length_cons, List.length_nil] at hk; omega)
            have zG := gRows_free zG k69 (by intro k hk q; omega)
            have zA : gSg G (B + 109) (gLA G (B + 109) (gTbs (gAst α (nI j) (π 3 j)) (gFli j (π 3 j) 3 3 x).2)) H67 := zA
            rw [← hQ]
            exact g_iret hx hb hr hlk hS dX11_act_113 (by rw [show gqAct π μ (nI j) a x = ((gFli j (π 3 j) 3 3 x).1, gTrs (gU μ 4 1 0) (gFli j (π 3 j) 3 3 x).2) from by simp only [gqAct, if_pos c5, if_pos c14, nI_clamp (show j < 2 ^ 31 by omega), gAct, ec, if_neg c61, if_pos c66], show gqActA π α (nI j) a x = gTbs (gAst α (nI j) (π 3 j)) (gFli j (π 3 j) 3 3 x).2 from by simp only [gqActA, if_pos c5, if_pos c14, nI_clamp (show j < 2 ^ 31 by omega), gAct, ec, if_neg c61, if_pos c66]]; exact ⟨rfl, _, hrr, zO, h1, hk7, ⟨_, h2⟩, ⟨_, _, _, zT⟩, zKT, ⟨_, hrk, zE⟩, zB, zF, ⟨_, zN⟩, zA, zP, zG⟩)
          · skip
            refine lv_lookup (off := 50) (tgt := 114) hx hb dX11_act_64 (by decide) (by show Op.lookupswitch.offset [(0, 28), (1, 39)] 50 _ = _; rw [lv_osw (a := 0) c61 (by decide), lv_osw (a := 1) c66 (by decide)]; rfl) (by decide) ?_
            refine lv_aload hx hb dX11_act_114 (lv_at hl 0 rfl) ?_
            refine lv_aload_n hx hb dX11_act_116 rfl (lv_at hl 1 rfl) ?_
            refine g_get (v := .ref (B + 109)) (T := TX11) (ci := 11) (N := 13) hx hb hown hK (gY_X11 hT) rfl (zO 0 _ rfl) 9 (by decide) (hT _ gf_X11_41) rfl dX11_act_117 ?_
            refine lv_iload_n hx hb dX11_act_120 rfl (lv_at hl 4 rfl) ?_
            refine g_ki (g_runW (x := yX7_tells) (rest := []) (T := TX4) (ci := 4) (N := 0) (C := RX4) hx hb hml hown hE hT (c_X4_tells_3 l G  (B + 1 + 28) (B + 109) (gAst α (nI j) (π 3 j)) (by omega) 0 gAst_0 j (π 3 j) gAst_1 gAst_2 (by omega) x) gM_X4_tells gm_X11_243 gi_X4_tells gs_RX4_GoodNewsPigeons_Pigeon_tells_LGoodNewsPigeons_Act_I_I_yX4_tells gx_936 gi_X7_tells gc_X7_tells ⟨by decide, by decide, by decide +kernel⟩ rfl (hk7 3 _ rfl) ⟨hk7, zA⟩ rfl hl.1 ⟨rfl, rfl⟩ ⟨Nat.le_of_ble_eq_true rfl, Nat.le_of_ble_eq_true rfl⟩ ⟨Nat.zero_le _, Nat.zero_le _⟩ rfl (Nat.le_of_ble_eq_true rfl) dX11_act_121) hS (by intro q hq; omega) (fun r74 H71 locs q72 k73 hS => ?_)
            obtain ⟨e9, hk7, zA⟩ := q72
            have e9 : _ = (gTel j (π 3 j) 3 3 x).1 := e9
            rw [e9]
            have zO := gSg_free zO k73 (by intro k hk q; simp only [List.length_cons, List.length_nil] at hk; omega)
            have h1 := gSg_free h1 k73 (by intro k hk q; simp only [List.length_cons, List.length_nil] at hk; omega)
            have h2 := gSg_free h2 k73 (by intro k hk q; simp only [List.length_cons, List.length_nil] at hk; omega)
            have zT := gSg_free zT k73 (by intro k hk q; simp only [List.length_cons, List.length_nil] at hk; omega)
            have zKT := gSg_free zKT k73 (by intro k hk q; simp only [List.length_cons, List.length_nil] at hk; omega)
            have zE := gSg_free zE k73 (by intro k hk q; simp only [List.length_cons, List.length_nil] at hk; omega)
            have zB := gSg_free zB k73 (by intro k hk q; simp only [List.length_cons, List.length_nil] at hk; omega)
            have zF := gSg_free zF k73 (by intro k hk q; simp only [List.length_cons, List.length_nil] at hk; omega)
            have zN := gSg_free zN k73 (by intro k hk q; simp only [List.length_cons, List.length_nil] at hk; omega)
            have zP := gSg_free zP k73 (by intro k hk q; simp only [List.length_cons, List.length_nil] at hk; omega)
            have zG := gRows_free zG k73 (by intro k hk q; omega)
            have zA : gSg G (B + 109) (gLA G (B + 109) (gTbs (gAst α (nI j) (π 3 j)) (gTel j (π 3 j) 3 3 x).2)) H71 := zA
            rw [← hQ]
            exact g_iret hx hb hr hlk hS dX11_act_124 (by rw [show gqAct π μ (nI j) a x = ((gTel j (π 3 j) 3 3 x).1, gTrs (gU μ 4 1 0) (gTel j (π 3 j) 3 3 x).2) from by simp only [gqAct, if_pos c5, if_pos c14, nI_clamp (show j < 2 ^ 31 by omega), gAct, ec, if_neg c61, if_neg c66], show gqActA π α (nI j) a x = gTbs (gAst α (nI j) (π 3 j)) (gTel j (π 3 j) 3 3 x).2 from by simp only [gqActA, if_pos c5, if_pos c14, nI_clamp (show j < 2 ^ 31 by omega), gAct, ec, if_neg c61, if_neg c66]]; exact ⟨rfl, _, hrr, zO, h1, hk7, ⟨_, h2⟩, ⟨_, _, _, zT⟩, zKT, ⟨_, hrk, zE⟩, zB, zF, ⟨_, zN⟩, zA, zP, zG⟩)
      · refine lv_aload_n hx hb dX11_act_44 rfl (lv_at hl 0 rfl) ?_
        refine g_get (v := .ref (B + 1)) (T := TX11) (ci := 11) (N := 13) hx hb hown hK (gY_X11 hT) rfl (zO 0 _ rfl) 0 (by decide) (hT _ gf_X11_12) rfl dX11_act_45 ?_
        refine g_get (v := .ref (B + 1 + 1)) (T := TX9) (ci := 9) (N := 16) hx hb hown hK (gY_X9 hT) rfl (h1 0 _ rfl) 0 (by decide) (hT _ gf_X11_230) rfl dX11_act_48 ?_
        refine lv_aload_n hx hb dX11_act_51 rfl (lv_at hl 0 rfl) ?_
        refine g_get (v := .ref (B + 1)) (T := TX11) (ci := 11) (N := 13) hx hb hown hK (gY_X11 hT) rfl (zO 0 _ rfl) 0 (by decide) (hT _ gf_X11_12) rfl dX11_act_52 ?_
        refine g_get (v := .ref (B + 1 + 4)) (T := TX9) (ci := 9) (N := 16) hx hb hown hK (gY_X9 hT) rfl (h1 0 _ rfl) 3 (by decide) (hT _ gf_X11_73) rfl dX11_act_55 ?_
        refine lv_iload_n hx hb dX11_act_58 rfl (lv_at hl 1 rfl) ?_
        refine g_ia (j := j) (v := π 2 j) hx hb hK (h1 4 _ rfl) rfl (by omega) (Nat.le_of_ble_eq_true rfl) rfl dX11_act_59 ?_
        refine g_aa5 (j := 4) (v := .ref (B + 1 + 28 + 4)) hx hb hK (h1 1 _ rfl) ek (by omega) (Nat.le_of_ble_eq_true rfl) rfl dX11_act_60 ?_
        refine lv_astore (lv' := [(4, .ref (B + 1 + 28 + 4)), (0, .ref B), (1, .int (nI j)), (2, .int a), (3, .int x)]) hx hb dX11_act_61 hl (by decide) rfl (fun ls hl => ?_)
        refine lv_iload_n hx hb dX11_act_63 rfl (lv_at hl 3 rfl) ?_
        by_cases c75 : a = 0
        · refine lv_lookup (off := 28) (tgt := 92) hx hb dX11_act_64 (by decide) (by rw [c75]; rfl) (by decide) ?_
          refine lv_aload hx hb dX11_act_92 (lv_at hl 0 rfl) ?_
          refine lv_aload_n hx hb dX11_act_94 rfl (lv_at hl 1 rfl) ?_
          refine g_get (v := .ref (B + 109)) (T := TX11) (ci := 11) (N := 13) hx hb hown hK (gY_X11 hT) rfl (zO 0 _ rfl) 9 (by decide) (hT _ gf_X11_41) rfl dX11_act_95 ?_
          refine lv_iload_n hx hb dX11_act_98 rfl (lv_at hl 4 rfl) ?_
          refine g_ki (g_runW (x := yX7_coos) (rest := []) (T := TX3) (ci := 3) (N := 0) (C := RX3) hx hb hml hown hE hT (c_X3_coos_4 l G  (B + 1 + 28) (B + 109) (gAst α (nI j) (π 3 j)) (by omega) 0 gAst_0 j (π 3 j) gAst_1 gAst_2 (by omega) x) gM_X3_coos gm_X11_234 gi_X3_coos gs_RX3_GoodNewsPigeons_Pigeon_coos_LGoodNewsPigeons_Act_I_I_yX3_coos gx_879 gi_X7_coos gc_X7_coos ⟨by decide, by decide, by decide +kernel⟩ rfl (hk7 4 _ rfl) ⟨hk7, zA⟩ rfl hl.1 ⟨rfl, rfl⟩ ⟨Nat.le_of_ble_eq_true rfl, Nat.le_of_ble_eq_true rfl⟩ ⟨Nat.zero_le _, Nat.zero_le _⟩ rfl (Nat.le_of_ble_eq_true rfl) dX11_act_99) hS (by intro q hq; omega) (fun r79 H76 locs q77 k78 hS => ?_)
          obtain ⟨e9, hk7, zA⟩ := q77
          have e9 : _ = (gCoo j (π 3 j) 4 x).1 := e9
          rw [e9]
          have zO := gSg_free zO k78 (by intro k hk q; simp only [List.length_cons, List.length_nil] at hk; omega)
          have h1 := gSg_free h1 k78 (by intro k hk q; simp only [List.length_cons, List.length_nil] at hk; omega)
          have h2 := gSg_free h2 k78 (by intro k hk q; simp only [List.length_cons, List.length_nil] at hk; omega)
          have zT := gSg_free zT k78 (by intro k hk q; simp only [List.length_cons, List.length_nil] at hk; omega)
          have zKT := gSg_free zKT k78 (by intro k hk q; simp only [List.length_cons, List.length_nil] at hk; omega)
          have zE := gSg_free zE k78 (by intro k hk q; simp only [List.length_cons, List.length_nil] at hk; omega)
          have zB := gSg_free zB k78 (by intro k hk q; simp only [List.length_cons, List.length_nil] at hk; omega)
          have zF := gSg_free zF k78 (by intro k hk q; simp only [List.length_cons, List.length_nil] at hk; omega)
          have zN := gSg_free zN k78 (by intro k hk q; simp only [List.length_cons, List.length_nil] at hk; omega)
          have zP := gSg_free zP k78 (by intro k hk q; simp only [List.length_cons, List.length_nil] at hk; omega)
          have zG := gRows_free zG k78 (by intro k hk q; omega)
          have zA : gSg G (B + 109) (gLA G (B + 109) (gTbs (gAst α (nI j) (π 3 j)) (gCoo j (π 3 j) 4 x).2)) H76 := zA
          rw [← hQ]
          exact g_iret hx hb hr hlk hS dX11_act_102 (by rw [show gqAct π μ (nI j) a x = ((gCoo j (π 3 j) 4 x).1, gTrs (gU μ 4 1 0) (gCoo j (π 3 j) 4 x).2) from by simp only [gqAct, if_pos c5, if_pos c14, nI_clamp (show j < 2 ^ 31 by omega), gAct, ec, if_pos c75], show gqActA π α (nI j) a x = gTbs (gAst α (nI j) (π 3 j)) (gCoo j (π 3 j) 4 x).2 from by simp only [gqActA, if_pos c5, if_pos c14, nI_clamp (show j < 2 ^ 31 by omega), gAct, ec, if_pos c75]]; exact ⟨rfl, _, hrr, zO, h1, hk7, ⟨_, h2⟩, ⟨_, _, _, zT⟩, zKT, ⟨_, hrk, zE⟩, zB, zF, ⟨_, zN⟩, zA, zP, zG⟩)
        · skip
          by_cases c80 : a = 1
          · refine lv_lookup (off := 39) (tgt := 103) hx hb dX11_act_64 (by decide) (by rw [c80]; rfl) (by decide) ?_
            refine lv_aload hx hb dX11_act_103 (lv_at hl 0 rfl) ?_
            refine lv_aload_n hx hb dX11_act_105 rfl (lv_at hl 1 rfl) ?_
            refine g_get (v := .ref (B + 109)) (T := TX11) (ci := 11) (N := 13) hx hb hown hK (gY_X11 hT) rfl (zO 0 _ rfl) 9 (by decide) (hT _ gf_X11_41) rfl dX11_act_106 ?_
            refine lv_iload_n hx hb dX11_act_109 rfl (lv_at hl 4 rfl) ?_
            refine g_ki (g_runW (x := yX7_flies) (rest := []) (T := TX3) (ci := 3) (N := 0) (C := RX3) hx hb hml hown hE hT (c_X3_flies_4 l G  (B + 1 + 28) (B + 109) (gAst α (nI j) (π 3 j)) (by omega) 0 gAst_0 j (π 3 j) gAst_1 gAst_2 (by omega) x) gM_X3_flies gm_X11_240 gi_X3_flies gs_RX3_GoodNewsPigeons_Pigeon_flies_LGoodNewsPigeons_Act_I_I_yX3_flies gx_909 gi_X7_flies gc_X7_flies ⟨by decide, by decide, by decide +kernel⟩ rfl (hk7 4 _ rfl) ⟨hk7, zA⟩ rfl hl.1 ⟨rfl, rfl⟩ ⟨Nat.le_of_ble_eq_true rfl, Nat.le_of_ble_eq_true rfl⟩ ⟨Nat.zero_le _, Nat.zero_le _⟩ rfl (Nat.le_of_ble_eq_true rfl) dX11_act_110) hS (by intro q hq; omega) (fun r84 H81 locs q82 k83 hS => ?_)
            obtain ⟨e9, hk7, zA⟩ := q82
            have e9 : _ = (gFli j (π 3 j) 4 4 x).1 := e9
            rw [e9]
            have zO := gSg_free zO k83 (by intro k hk q; simp only [List.length_cons, List.length_nil] at hk; omega)
            have h1 := gSg_free h1 k83 (by intro k hk q; simp only [List.length_cons, List.length_nil] at hk; omega)
            have h2 := gSg_free h2 k83 (by intro k hk q; simp only [List.length_cons, List.length_nil] at hk; omega)
            have zT := gSg_free zT k83 (by intro k hk q; simp only [List.length_cons, List.length_nil] at hk; omega)
            have zKT := gSg_free zKT k83 (by intro k hk q; simp only [List.length_cons, List.length_nil] at hk; omega)
            have zE := gSg_free zE k83 (by intro k hk q; simp only [List.length_cons, List.length_nil] at hk; omega)
            have zB := gSg_free zB k83 (by intro k hk q; simp only [List.length_cons, List.length_nil] at hk; omega)
            have zF := gSg_free zF k83 (by intro k hk q; simp only [List.length_cons, List.length_nil] at hk; omega)
            have zN := gSg_free zN k83 (by intro k hk q; simp only [List.length_cons, List.length_nil] at hk; omega)
            have zP := gSg_free zP k83 (by intro k hk q; simp only [List.length_cons, List.length_nil] at hk; omega)
            have zG := gRows_free zG k83 (by intro k hk q; omega)
            have zA : gSg G (B + 109) (gLA G (B + 109) (gTbs (gAst α (nI j) (π 3 j)) (gFli j (π 3 j) 4 4 x).2)) H81 := zA
            rw [← hQ]
            exact g_iret hx hb hr hlk hS dX11_act_113 (by rw [show gqAct π μ (nI j) a x = ((gFli j (π 3 j) 4 4 x).1, gTrs (gU μ 4 1 0) (gFli j (π 3 j) 4 4 x).2) from by simp only [gqAct, if_pos c5, if_pos c14, nI_clamp (show j < 2 ^ 31 by omega), gAct, ec, if_neg c75, if_pos c80], show gqActA π α (nI j) a x = gTbs (gAst α (nI j) (π 3 j)) (gFli j (π 3 j) 4 4 x).2 from by simp only [gqActA, if_pos c5, if_pos c14, nI_clamp (show j < 2 ^ 31 by omega), gAct, ec, if_neg c75, if_pos c80]]; exact ⟨rfl, _, hrr, zO, h1, hk7, ⟨_, h2⟩, ⟨_, _, _, zT⟩, zKT, ⟨_, hrk, zE⟩, zB, zF, ⟨_, zN⟩, zA, zP, zG⟩)
          · skip
            refine lv_lookup (off := 50) (tgt := 114) hx hb dX11_act_64 (by decide) (by show Op.lookupswitch.offset [(0, 28), (1, 39)] 50 _ = _; rw [lv_osw (a := 0) c75 (by decide), lv_osw (a := 1) c80 (by decide)]; rfl) (by decide) ?_
            refine lv_aload hx hb dX11_act_114 (lv_at hl 0 rfl) ?_
            refine lv_aload_n hx hb dX11_act_116 rfl (lv_at hl 1 rfl) ?_
            refine g_get (v := .ref (B + 109)) (T := TX11) (ci := 11) (N := 13) hx hb hown hK (gY_X11 hT) rfl (zO 0 _ rfl) 9 (by decide) (hT _ gf_X11_41) rfl dX11_act_117 ?_
            refine lv_iload_n hx hb dX11_act_120 rfl (lv_at hl 4 rfl) ?_
            refine g_ki (g_runW (x := yX7_tells) (rest := []) (T := TX3) (ci := 3) (N := 0) (C := RX3) hx hb hml hown hE hT (c_X7_tells_4 l G  (B + 1 + 28) (B + 109) (gAst α (nI j) (π 3 j)) (by omega) 0 gAst_0 j (π 3 j) gAst_1 gAst_2 (by omega) x) gM_X7_tells gm_X11_243 gi_X7_tells gs_RX3_GoodNewsPigeons_Pigeon_tells_LGoodNewsPigeons_Act_I_I_yX7_tells gx_936 gi_X7_tells gc_X7_tells ⟨by decide, by decide, by decide +kernel⟩ rfl (hk7 4 _ rfl) ⟨hk7, zA⟩ rfl hl.1 ⟨rfl, rfl⟩ ⟨Nat.le_of_ble_eq_true rfl, Nat.le_of_ble_eq_true rfl⟩ ⟨Nat.zero_le _, Nat.zero_le _⟩ rfl (Nat.le_of_ble_eq_true rfl) dX11_act_121) hS (by intro q hq; omega) (fun r88 H85 locs q86 k87 hS => ?_)
            obtain ⟨e9, hk7, zA⟩ := q86
            have e9 : _ = (gTel j (π 3 j) 4 4 x).1 := e9
            rw [e9]
            have zO := gSg_free zO k87 (by intro k hk q; simp only [List.length_cons, List.length_nil] at hk; omega)
            have h1 := gSg_free h1 k87 (by intro k hk q; simp only [List.length_cons, List.length_nil] at hk; omega)
            have h2 := gSg_free h2 k87 (by intro k hk q; simp only [List.length_cons, List.length_nil] at hk; omega)
            have zT := gSg_free zT k87 (by intro k hk q; simp only [List.length_cons, List.length_nil] at hk; omega)
            have zKT := gSg_free zKT k87 (by intro k hk q; simp only [List.length_cons, List.length_nil] at hk; omega)
            have zE := gSg_free zE k87 (by intro k hk q; simp only [List.length_cons, List.length_nil] at hk; omega)
            have zB := gSg_free zB k87 (by intro k hk q; simp only [List.length_cons, List.length_nil] at hk; omega)
            have zF := gSg_free zF k87 (by intro k hk q; simp only [List.length_cons, List.length_nil] at hk; omega)
            have zN := gSg_free zN k87 (by intro k hk q; simp only [List.length_cons, List.length_nil] at hk; omega)
            have zP := gSg_free zP k87 (by intro k hk q; simp only [List.length_cons, List.length_nil] at hk; omega)
            have zG := gRows_free zG k87 (by intro k hk q; omega)
            have zA : gSg G (B + 109) (gLA G (B + 109) (gTbs (gAst α (nI j) (π 3 j)) (gTel j (π 3 j) 4 4 x).2)) H85 := zA
            rw [← hQ]
            exact g_iret hx hb hr hlk hS dX11_act_124 (by rw [show gqAct π μ (nI j) a x = ((gTel j (π 3 j) 4 4 x).1, gTrs (gU μ 4 1 0) (gTel j (π 3 j) 4 4 x).2) from by simp only [gqAct, if_pos c5, if_pos c14, nI_clamp (show j < 2 ^ 31 by omega), gAct, ec, if_neg c75, if_neg c80], show gqActA π α (nI j) a x = gTbs (gAst α (nI j) (π 3 j)) (gTel j (π 3 j) 4 4 x).2 from by simp only [gqActA, if_pos c5, if_pos c14, nI_clamp (show j < 2 ^ 31 by omega), gAct, ec, if_neg c75, if_neg c80]]; exact ⟨rfl, _, hrr, zO, h1, hk7, ⟨_, h2⟩, ⟨_, _, _, zT⟩, zKT, ⟨_, hrk, zE⟩, zB, zF, ⟨_, zN⟩, zA, zP, zG⟩)
      · refine lv_aload_n hx hb dX11_act_44 rfl (lv_at hl 0 rfl) ?_
        refine g_get (v := .ref (B + 1)) (T := TX11) (ci := 11) (N := 13) hx hb hown hK (gY_X11 hT) rfl (zO 0 _ rfl) 0 (by decide) (hT _ gf_X11_12) rfl dX11_act_45 ?_
        refine g_get (v := .ref (B + 1 + 1)) (T := TX9) (ci := 9) (N := 16) hx hb hown hK (gY_X9 hT) rfl (h1 0 _ rfl) 0 (by decide) (hT _ gf_X11_230) rfl dX11_act_48 ?_
        refine lv_aload_n hx hb dX11_act_51 rfl (lv_at hl 0 rfl) ?_
        refine g_get (v := .ref (B + 1)) (T := TX11) (ci := 11) (N := 13) hx hb hown hK (gY_X11 hT) rfl (zO 0 _ rfl) 0 (by decide) (hT _ gf_X11_12) rfl dX11_act_52 ?_
        refine g_get (v := .ref (B + 1 + 4)) (T := TX9) (ci := 9) (N := 16) hx hb hown hK (gY_X9 hT) rfl (h1 0 _ rfl) 3 (by decide) (hT _ gf_X11_73) rfl dX11_act_55 ?_
        refine lv_iload_n hx hb dX11_act_58 rfl (lv_at hl 1 rfl) ?_
        refine g_ia (j := j) (v := π 2 j) hx hb hK (h1 4 _ rfl) rfl (by omega) (Nat.le_of_ble_eq_true rfl) rfl dX11_act_59 ?_
        refine g_aa5 (j := 5) (v := .ref (B + 1 + 28 + 5)) hx hb hK (h1 1 _ rfl) ek (by omega) (Nat.le_of_ble_eq_true rfl) rfl dX11_act_60 ?_
        refine lv_astore (lv' := [(4, .ref (B + 1 + 28 + 5)), (0, .ref B), (1, .int (nI j)), (2, .int a), (3, .int x)]) hx hb dX11_act_61 hl (by decide) rfl (fun ls hl => ?_)
        refine lv_iload_n hx hb dX11_act_63 rfl (lv_at hl 3 rfl) ?_
        by_cases c89 : a = 0
        · refine lv_lookup (off := 28) (tgt := 92) hx hb dX11_act_64 (by decide) (by rw [c89]; rfl) (by decide) ?_
          refine lv_aload hx hb dX11_act_92 (lv_at hl 0 rfl) ?_
          refine lv_aload_n hx hb dX11_act_94 rfl (lv_at hl 1 rfl) ?_
          refine g_get (v := .ref (B + 109)) (T := TX11) (ci := 11) (N := 13) hx hb hown hK (gY_X11 hT) rfl (zO 0 _ rfl) 9 (by decide) (hT _ gf_X11_41) rfl dX11_act_95 ?_
          refine lv_iload_n hx hb dX11_act_98 rfl (lv_at hl 4 rfl) ?_
          refine g_ki (g_runW (x := yX7_coos) (rest := []) (T := TX6) (ci := 6) (N := 0) (C := RX6) hx hb hml hown hE hT (c_X1_coos_5 l G  (B + 1 + 28) (B + 109) (gAst α (nI j) (π 3 j)) (by omega) 0 gAst_0 j (π 3 j) gAst_1 gAst_2 (by omega) x) gM_X1_coos gm_X11_234 gi_X1_coos gs_RX6_GoodNewsPigeons_Pigeon_coos_LGoodNewsPigeons_Act_I_I_yX1_coos gx_879 gi_X7_coos gc_X7_coos ⟨by decide, by decide, by decide +kernel⟩ rfl (hk7 5 _ rfl) ⟨hk7, zA⟩ rfl hl.1 ⟨rfl, rfl⟩ ⟨Nat.le_of_ble_eq_true rfl, Nat.le_of_ble_eq_true rfl⟩ ⟨Nat.zero_le _, Nat.zero_le _⟩ rfl (Nat.le_of_ble_eq_true rfl) dX11_act_99) hS (by intro q hq; omega) (fun r93 H90 locs q91 k92 hS => ?_)
          obtain ⟨e9, hk7, zA⟩ := q91
          have e9 : _ = (gCoo j (π 3 j) 5 x).1 := e9
          rw [e9]
          have zO := gSg_free zO k92 (by intro k hk q; simp only [List.length_cons, List.length_nil] at hk; omega)
          have h1 := gSg_free h1 k92 (by intro k hk q; simp only [List.length_cons, List.length_nil] at hk; omega)
          have h2 := gSg_free h2 k92 (by intro k hk q; simp only [List.length_cons, List.length_nil] at hk; omega)
          have zT := gSg_free zT k92 (by intro k hk q; simp only [List.length_cons, List.length_nil] at hk; omega)
          have zKT := gSg_free zKT k92 (by intro k hk q; simp only [List.length_cons, List.length_nil] at hk; omega)
          have zE := gSg_free zE k92 (by intro k hk q; simp only [List.length_cons, List.length_nil] at hk; omega)
          have zB := gSg_free zB k92 (by intro k hk q; simp only [List.length_cons, List.length_nil] at hk; omega)
          have zF := gSg_free zF k92 (by intro k hk q; simp only [List.length_cons, List.length_nil] at hk; omega)
          have zN := gSg_free zN k92 (by intro k hk q; simp only [List.length_cons, List.length_nil] at hk; omega)
          have zP := gSg_free zP k92 (by intro k hk q; simp only [List.length_cons, List.length_nil] at hk; omega)
          have zG := gRows_free zG k92 (by intro k hk q; omega)
          have zA : gSg G (B + 109) (gLA G (B + 109) (gTbs (gAst α (nI j) (π 3 j)) (gCoo j (π 3 j) 5 x).2)) H90 := zA
          rw [← hQ]
          exact g_iret hx hb hr hlk hS dX11_act_102 (by rw [show gqAct π μ (nI j) a x = ((gCoo j (π 3 j) 5 x).1, gTrs (gU μ 4 1 0) (gCoo j (π 3 j) 5 x).2) from by simp only [gqAct, if_pos c5, if_pos c14, nI_clamp (show j < 2 ^ 31 by omega), gAct, ec, if_pos c89], show gqActA π α (nI j) a x = gTbs (gAst α (nI j) (π 3 j)) (gCoo j (π 3 j) 5 x).2 from by simp only [gqActA, if_pos c5, if_pos c14, nI_clamp (show j < 2 ^ 31 by omega), gAct, ec, if_pos c89]]; exact ⟨rfl, _, hrr, zO, h1, hk7, ⟨_, h2⟩, ⟨_, _, _, zT⟩, zKT, ⟨_, hrk, zE⟩, zB, zF, ⟨_, zN⟩, zA, zP, zG⟩)
        · skip
          by_cases c94 : a = 1
          · refine lv_lookup (off := 39) (tgt := 103) hx hb dX11_act_64 (by decide) (by rw [c94]; rfl) (by decide) ?_
            refine lv_aload hx hb dX11_act_103 (lv_at hl 0 rfl) ?_
            refine lv_aload_n hx hb dX11_act_105 rfl (lv_at hl 1 rfl) ?_
            refine g_get (v := .ref (B + 109)) (T := TX11) (ci := 11) (N := 13) hx hb hown hK (gY_X11 hT) rfl (zO 0 _ rfl) 9 (by decide) (hT _ gf_X11_41) rfl dX11_act_106 ?_
            refine lv_iload_n hx hb dX11_act_109 rfl (lv_at hl 4 rfl) ?_
            refine g_ki (g_runW (x := yX7_flies) (rest := []) (T := TX6) (ci := 6) (N := 0) (C := RX6) hx hb hml hown hE hT (c_X7_flies_5 l G  (B + 1 + 28) (B + 109) (gAst α (nI j) (π 3 j)) (by omega) 0 gAst_0 j (π 3 j) gAst_1 gAst_2 (by omega) x) gM_X7_flies gm_X11_240 gi_X7_flies gs_RX6_GoodNewsPigeons_Pigeon_flies_LGoodNewsPigeons_Act_I_I_yX7_flies gx_909 gi_X7_flies gc_X7_flies ⟨by decide, by decide, by decide +kernel⟩ rfl (hk7 5 _ rfl) ⟨hk7, zA⟩ rfl hl.1 ⟨rfl, rfl⟩ ⟨Nat.le_of_ble_eq_true rfl, Nat.le_of_ble_eq_true rfl⟩ ⟨Nat.zero_le _, Nat.zero_le _⟩ rfl (Nat.le_of_ble_eq_true rfl) dX11_act_110) hS (by intro q hq; omega) (fun r98 H95 locs q96 k97 hS => ?_)
            obtain ⟨e9, hk7, zA⟩ := q96
            have e9 : _ = (gFli j (π 3 j) 5 5 x).1 := e9
            rw [e9]
            have zO := gSg_free zO k97 (by intro k hk q; simp only [List.length_cons, List.length_nil] at hk; omega)
            have h1 := gSg_free h1 k97 (by intro k hk q; simp only [List.length_cons, List.length_nil] at hk; omega)
            have h2 := gSg_free h2 k97 (by intro k hk q; simp only [List.length_cons, List.length_nil] at hk; omega)
            have zT := gSg_free zT k97 (by intro k hk q; simp only [List.length_cons, List.length_nil] at hk; omega)
            have zKT := gSg_free zKT k97 (by intro k hk q; simp only [List.length_cons, List.length_nil] at hk; omega)
            have zE := gSg_free zE k97 (by intro k hk q; simp only [List.length_cons, List.length_nil] at hk; omega)
            have zB := gSg_free zB k97 (by intro k hk q; simp only [List.length_cons, List.length_nil] at hk; omega)
            have zF := gSg_free zF k97 (by intro k hk q; simp only [List.length_cons, List.length_nil] at hk; omega)
            have zN := gSg_free zN k97 (by intro k hk q; simp only [List.length_cons, List.length_nil] at hk; omega)
            have zP := gSg_free zP k97 (by intro k hk q; simp only [List.length_cons, List.length_nil] at hk; omega)
            have zG := gRows_free zG k97 (by intro k hk q; omega)
            have zA : gSg G (B + 109) (gLA G (B + 109) (gTbs (gAst α (nI j) (π 3 j)) (gFli j (π 3 j) 5 5 x).2)) H95 := zA
            rw [← hQ]
            exact g_iret hx hb hr hlk hS dX11_act_113 (by rw [show gqAct π μ (nI j) a x = ((gFli j (π 3 j) 5 5 x).1, gTrs (gU μ 4 1 0) (gFli j (π 3 j) 5 5 x).2) from by simp only [gqAct, if_pos c5, if_pos c14, nI_clamp (show j < 2 ^ 31 by omega), gAct, ec, if_neg c89, if_pos c94], show gqActA π α (nI j) a x = gTbs (gAst α (nI j) (π 3 j)) (gFli j (π 3 j) 5 5 x).2 from by simp only [gqActA, if_pos c5, if_pos c14, nI_clamp (show j < 2 ^ 31 by omega), gAct, ec, if_neg c89, if_pos c94]]; exact ⟨rfl, _, hrr, zO, h1, hk7, ⟨_, h2⟩, ⟨_, _, _, zT⟩, zKT, ⟨_, hrk, zE⟩, zB, zF, ⟨_, zN⟩, zA, zP, zG⟩)
          · skip
            refine lv_lookup (off := 50) (tgt := 114) hx hb dX11_act_64 (by decide) (by show Op.lookupswitch.offset [(0, 28), (1, 39)] 50 _ = _; rw [lv_osw (a := 0) c89 (by decide), lv_osw (a := 1) c94 (by decide)]; rfl) (by decide) ?_
            refine lv_aload hx hb dX11_act_114 (lv_at hl 0 rfl) ?_
            refine lv_aload_n hx hb dX11_act_116 rfl (lv_at hl 1 rfl) ?_
            refine g_get (v := .ref (B + 109)) (T := TX11) (ci := 11) (N := 13) hx hb hown hK (gY_X11 hT) rfl (zO 0 _ rfl) 9 (by decide) (hT _ gf_X11_41) rfl dX11_act_117 ?_
            refine lv_iload_n hx hb dX11_act_120 rfl (lv_at hl 4 rfl) ?_
            refine g_ki (g_runW (x := yX7_tells) (rest := []) (T := TX6) (ci := 6) (N := 0) (C := RX6) hx hb hml hown hE hT (c_X6_tells_5 l G  (B + 1 + 28) (B + 109) (gAst α (nI j) (π 3 j)) (by omega) 0 gAst_0 j (π 3 j) gAst_1 gAst_2 (by omega) x) gM_X6_tells gm_X11_243 gi_X6_tells gs_RX6_GoodNewsPigeons_Pigeon_tells_LGoodNewsPigeons_Act_I_I_yX6_tells gx_936 gi_X7_tells gc_X7_tells ⟨by decide, by decide, by decide +kernel⟩ rfl (hk7 5 _ rfl) ⟨hk7, zA⟩ rfl hl.1 ⟨rfl, rfl⟩ ⟨Nat.le_of_ble_eq_true rfl, Nat.le_of_ble_eq_true rfl⟩ ⟨Nat.zero_le _, Nat.zero_le _⟩ rfl (Nat.le_of_ble_eq_true rfl) dX11_act_121) hS (by intro q hq; omega) (fun r102 H99 locs q100 k101 hS => ?_)
            obtain ⟨e9, hk7, zA⟩ := q100
            have e9 : _ = (gTel j (π 3 j) 5 5 x).1 := e9
            rw [e9]
            have zO := gSg_free zO k101 (by intro k hk q; simp only [List.length_cons, List.length_nil] at hk; omega)
            have h1 := gSg_free h1 k101 (by intro k hk q; simp only [List.length_cons, List.length_nil] at hk; omega)
            have h2 := gSg_free h2 k101 (by intro k hk q; simp only [List.length_cons, List.length_nil] at hk; omega)
            have zT := gSg_free zT k101 (by intro k hk q; simp only [List.length_cons, List.length_nil] at hk; omega)
            have zKT := gSg_free zKT k101 (by intro k hk q; simp only [List.length_cons, List.length_nil] at hk; omega)
            have zE := gSg_free zE k101 (by intro k hk q; simp only [List.length_cons, List.length_nil] at hk; omega)
            have zB := gSg_free zB k101 (by intro k hk q; simp only [List.length_cons, List.length_nil] at hk; omega)
            have zF := gSg_free zF k101 (by intro k hk q; simp only [List.length_cons, List.length_nil] at hk; omega)
            have zN := gSg_free zN k101 (by intro k hk q; simp only [List.length_cons, List.length_nil] at hk; omega)
            have zP := gSg_free zP k101 (by intro k hk q; simp only [List.length_cons, List.length_nil] at hk; omega)
            have zG := gRows_free zG k101 (by intro k hk q; omega)
            have zA : gSg G (B + 109) (gLA G (B + 109) (gTbs (gAst α (nI j) (π 3 j)) (gTel j (π 3 j) 5 5 x).2)) H99 := zA
            rw [← hQ]
            exact g_iret hx hb hr hlk hS dX11_act_124 (by rw [show gqAct π μ (nI j) a x = ((gTel j (π 3 j) 5 5 x).1, gTrs (gU μ 4 1 0) (gTel j (π 3 j) 5 5 x).2) from by simp only [gqAct, if_pos c5, if_pos c14, nI_clamp (show j < 2 ^ 31 by omega), gAct, ec, if_neg c89, if_neg c94], show gqActA π α (nI j) a x = gTbs (gAst α (nI j) (π 3 j)) (gTel j (π 3 j) 5 5 x).2 from by simp only [gqActA, if_pos c5, if_pos c14, nI_clamp (show j < 2 ^ 31 by omega), gAct, ec, if_neg c89, if_neg c94]]; exact ⟨rfl, _, hrr, zO, h1, hk7, ⟨_, h2⟩, ⟨_, _, _, zT⟩, zKT, ⟨_, hrk, zE⟩, zB, zF, ⟨_, zN⟩, zA, zP, zG⟩)
      · refine lv_aload_n hx hb dX11_act_44 rfl (lv_at hl 0 rfl) ?_
        refine g_get (v := .ref (B + 1)) (T := TX11) (ci := 11) (N := 13) hx hb hown hK (gY_X11 hT) rfl (zO 0 _ rfl) 0 (by decide) (hT _ gf_X11_12) rfl dX11_act_45 ?_
        refine g_get (v := .ref (B + 1 + 1)) (T := TX9) (ci := 9) (N := 16) hx hb hown hK (gY_X9 hT) rfl (h1 0 _ rfl) 0 (by decide) (hT _ gf_X11_230) rfl dX11_act_48 ?_
        refine lv_aload_n hx hb dX11_act_51 rfl (lv_at hl 0 rfl) ?_
        refine g_get (v := .ref (B + 1)) (T := TX11) (ci := 11) (N := 13) hx hb hown hK (gY_X11 hT) rfl (zO 0 _ rfl) 0 (by decide) (hT _ gf_X11_12) rfl dX11_act_52 ?_
        refine g_get (v := .ref (B + 1 + 4)) (T := TX9) (ci := 9) (N := 16) hx hb hown hK (gY_X9 hT) rfl (h1 0 _ rfl) 3 (by decide) (hT _ gf_X11_73) rfl dX11_act_55 ?_
        refine lv_iload_n hx hb dX11_act_58 rfl (lv_at hl 1 rfl) ?_
        refine g_ia (j := j) (v := π 2 j) hx hb hK (h1 4 _ rfl) rfl (by omega) (Nat.le_of_ble_eq_true rfl) rfl dX11_act_59 ?_
        refine g_aa5 (j := 6) (v := .ref (B + 1 + 28 + 6)) hx hb hK (h1 1 _ rfl) ek (by omega) (Nat.le_of_ble_eq_true rfl) rfl dX11_act_60 ?_
        refine lv_astore (lv' := [(4, .ref (B + 1 + 28 + 6)), (0, .ref B), (1, .int (nI j)), (2, .int a), (3, .int x)]) hx hb dX11_act_61 hl (by decide) rfl (fun ls hl => ?_)
        refine lv_iload_n hx hb dX11_act_63 rfl (lv_at hl 3 rfl) ?_
        by_cases c103 : a = 0
        · refine lv_lookup (off := 28) (tgt := 92) hx hb dX11_act_64 (by decide) (by rw [c103]; rfl) (by decide) ?_
          refine lv_aload hx hb dX11_act_92 (lv_at hl 0 rfl) ?_
          refine lv_aload_n hx hb dX11_act_94 rfl (lv_at hl 1 rfl) ?_
          refine g_get (v := .ref (B + 109)) (T := TX11) (ci := 11) (N := 13) hx hb hown hK (gY_X11 hT) rfl (zO 0 _ rfl) 9 (by decide) (hT _ gf_X11_41) rfl dX11_act_95 ?_
          refine lv_iload_n hx hb dX11_act_98 rfl (lv_at hl 4 rfl) ?_
          refine g_ki (g_runW (x := yX7_coos) (rest := []) (T := TX10) (ci := 10) (N := 0) (C := RX10) hx hb hml hown hE hT (c_X10_coos_6 l G  (B + 1 + 28) (B + 109) (gAst α (nI j) (π 3 j)) (by omega) 0 gAst_0 j (π 3 j) gAst_1 gAst_2 (by omega) x) gM_X10_coos gm_X11_234 gi_X10_coos gs_RX10_GoodNewsPigeons_Pigeon_coos_LGoodNewsPigeons_Act_I_I_yX10_coos gx_879 gi_X7_coos gc_X7_coos ⟨by decide, by decide, by decide +kernel⟩ rfl (hk7 6 _ rfl) ⟨hk7, zA⟩ rfl hl.1 ⟨rfl, rfl⟩ ⟨Nat.le_of_ble_eq_true rfl, Nat.le_of_ble_eq_true rfl⟩ ⟨Nat.zero_le _, Nat.zero_le _⟩ rfl (Nat.le_of_ble_eq_true rfl) dX11_act_99) hS (by intro q hq; omega) (fun r107 H104 locs q105 k106 hS => ?_)
          obtain ⟨e9, hk7, zA⟩ := q105
          have e9 : _ = (gCoo j (π 3 j) 6 x).1 := e9
          rw [e9]
          have zO := gSg_free zO k106 (by intro k hk q; simp only [List.length_cons, List.length_nil] at hk; omega)
          have h1 := gSg_free h1 k106 (by intro k hk q; simp only [List.length_cons, List.length_nil] at hk; omega)
          have h2 := gSg_free h2 k106 (by intro k hk q; simp only [List.length_cons, List.length_nil] at hk; omega)
          have zT := gSg_free zT k106 (by intro k hk q; simp only [List.length_cons, List.length_nil] at hk; omega)
          have zKT := gSg_free zKT k106 (by intro k hk q; simp only [List.length_cons, List.length_nil] at hk; omega)
          have zE := gSg_free zE k106 (by intro k hk q; simp only [List.length_cons, List.length_nil] at hk; omega)
          have zB := gSg_free zB k106 (by intro k hk q; simp only [List.length_cons, List.length_nil] at hk; omega)
          have zF := gSg_free zF k106 (by intro k hk q; simp only [List.length_cons, List.length_nil] at hk; omega)
          have zN := gSg_free zN k106 (by intro k hk q; simp only [List.length_cons, List.length_nil] at hk; omega)
          have zP := gSg_free zP k106 (by intro k hk q; simp only [List.length_cons, List.length_nil] at hk; omega)
          have zG := gRows_free zG k106 (by intro k hk q; omega)
          have zA : gSg G (B + 109) (gLA G (B + 109) (gTbs (gAst α (nI j) (π 3 j)) (gCoo j (π 3 j) 6 x).2)) H104 := zA
          rw [← hQ]
          exact g_iret hx hb hr hlk hS dX11_act_102 (by rw [show gqAct π μ (nI j) a x = ((gCoo j (π 3 j) 6 x).1, gTrs (gU μ 4 1 0) (gCoo j (π 3 j) 6 x).2) from by simp only [gqAct, if_pos c5, if_pos c14, nI_clamp (show j < 2 ^ 31 by omega), gAct, ec, if_pos c103], show gqActA π α (nI j) a x = gTbs (gAst α (nI j) (π 3 j)) (gCoo j (π 3 j) 6 x).2 from by simp only [gqActA, if_pos c5, if_pos c14, nI_clamp (show j < 2 ^ 31 by omega), gAct, ec, if_pos c103]]; exact ⟨rfl, _, hrr, zO, h1, hk7, ⟨_, h2⟩, ⟨_, _, _, zT⟩, zKT, ⟨_, hrk, zE⟩, zB, zF, ⟨_, zN⟩, zA, zP, zG⟩)
        · skip
          by_cases c108 : a = 1
          · refine lv_lookup (off := 39) (tgt := 103) hx hb dX11_act_64 (by decide) (by rw [c108]; rfl) (by decide) ?_
            refine lv_aload hx hb dX11_act_103 (lv_at hl 0 rfl) ?_
            refine lv_aload_n hx hb dX11_act_105 rfl (lv_at hl 1 rfl) ?_
            refine g_get (v := .ref (B + 109)) (T := TX11) (ci := 11) (N := 13) hx hb hown hK (gY_X11 hT) rfl (zO 0 _ rfl) 9 (by decide) (hT _ gf_X11_41) rfl dX11_act_106 ?_
            refine lv_iload_n hx hb dX11_act_109 rfl (lv_at hl 4 rfl) ?_
            refine g_ki (g_runW (x := yX7_flies) (rest := []) (T := TX10) (ci := 10) (N := 0) (C := RX10) hx hb hml hown hE hT (c_X10_flies_6 l G  (B + 1 + 28) (B + 109) (gAst α (nI j) (π 3 j)) (by omega) 0 gAst_0 j (π 3 j) gAst_1 gAst_2 (by omega) x) gM_X10_flies gm_X11_240 gi_X10_flies gs_RX10_GoodNewsPigeons_Pigeon_flies_LGoodNewsPigeons_Act_I_I_yX10_flies gx_909 gi_X7_flies gc_X7_flies ⟨by decide, by decide, by decide +kernel⟩ rfl (hk7 6 _ rfl) ⟨hk7, zA⟩ rfl hl.1 ⟨rfl, rfl⟩ ⟨Nat.le_of_ble_eq_true rfl, Nat.le_of_ble_eq_true rfl⟩ ⟨Nat.zero_le _, Nat.zero_le _⟩ rfl (Nat.le_of_ble_eq_true rfl) dX11_act_110) hS (by intro q hq; omega) (fun r112 H109 locs q110 k111 hS => ?_)
            obtain ⟨e9, hk7, zA⟩ := q110
            have e9 : _ = (gFli j (π 3 j) 6 6 x).1 := e9
            rw [e9]
            have zO := gSg_free zO k111 (by intro k hk q; simp only [List.length_cons, List.length_nil] at hk; omega)
            have h1 := gSg_free h1 k111 (by intro k hk q; simp only [List.length_cons, List.length_nil] at hk; omega)
            have h2 := gSg_free h2 k111 (by intro k hk q; simp only [List.length_cons, List.length_nil] at hk; omega)
            have zT := gSg_free zT k111 (by intro k hk q; simp only [List.length_cons, List.length_nil] at hk; omega)
            have zKT := gSg_free zKT k111 (by intro k hk q; simp only [List.length_cons, List.length_nil] at hk; omega)
            have zE := gSg_free zE k111 (by intro k hk q; simp only [List.length_cons, List.length_nil] at hk; omega)
            have zB := gSg_free zB k111 (by intro k hk q; simp only [List.length_cons, List.length_nil] at hk; omega)
            have zF := gSg_free zF k111 (by intro k hk q; simp only [List.length_cons, List.length_nil] at hk; omega)
            have zN := gSg_free zN k111 (by intro k hk q; simp only [List.length_cons, List.length_nil] at hk; omega)
            have zP := gSg_free zP k111 (by intro k hk q; simp only [List.length_cons, List.length_nil] at hk; omega)
            have zG := gRows_free zG k111 (by intro k hk q; omega)
            have zA : gSg G (B + 109) (gLA G (B + 109) (gTbs (gAst α (nI j) (π 3 j)) (gFli j (π 3 j) 6 6 x).2)) H109 := zA
            rw [← hQ]
            exact g_iret hx hb hr hlk hS dX11_act_113 (by rw [show gqAct π μ (nI j) a x = ((gFli j (π 3 j) 6 6 x).1, gTrs (gU μ 4 1 0) (gFli j (π 3 j) 6 6 x).2) from by simp only [gqAct, if_pos c5, if_pos c14, nI_clamp (show j < 2 ^ 31 by omega), gAct, ec, if_neg c103, if_pos c108], show gqActA π α (nI j) a x = gTbs (gAst α (nI j) (π 3 j)) (gFli j (π 3 j) 6 6 x).2 from by simp only [gqActA, if_pos c5, if_pos c14, nI_clamp (show j < 2 ^ 31 by omega), gAct, ec, if_neg c103, if_pos c108]]; exact ⟨rfl, _, hrr, zO, h1, hk7, ⟨_, h2⟩, ⟨_, _, _, zT⟩, zKT, ⟨_, hrk, zE⟩, zB, zF, ⟨_, zN⟩, zA, zP, zG⟩)
          · skip
            refine lv_lookup (off := 50) (tgt := 114) hx hb dX11_act_64 (by decide) (by show Op.lookupswitch.offset [(0, 28), (1, 39)] 50 _ = _; rw [lv_osw (a := 0) c103 (by decide), lv_osw (a := 1) c108 (by decide)]; rfl) (by decide) ?_
            refine lv_aload hx hb dX11_act_114 (lv_at hl 0 rfl) ?_
            refine lv_aload_n hx hb dX11_act_116 rfl (lv_at hl 1 rfl) ?_
            refine g_get (v := .ref (B + 109)) (T := TX11) (ci := 11) (N := 13) hx hb hown hK (gY_X11 hT) rfl (zO 0 _ rfl) 9 (by decide) (hT _ gf_X11_41) rfl dX11_act_117 ?_
            refine lv_iload_n hx hb dX11_act_120 rfl (lv_at hl 4 rfl) ?_
            refine g_ki (g_runW (x := yX7_tells) (rest := []) (T := TX10) (ci := 10) (N := 0) (C := RX10) hx hb hml hown hE hT (c_X4_tells_6 l G  (B + 1 + 28) (B + 109) (gAst α (nI j) (π 3 j)) (by omega) 0 gAst_0 j (π 3 j) gAst_1 gAst_2 (by omega) x) gM_X4_tells gm_X11_243 gi_X4_tells gs_RX10_GoodNewsPigeons_Pigeon_tells_LGoodNewsPigeons_Act_I_I_yX4_tells gx_936 gi_X7_tells gc_X7_tells ⟨by decide, by decide, by decide +kernel⟩ rfl (hk7 6 _ rfl) ⟨hk7, zA⟩ rfl hl.1 ⟨rfl, rfl⟩ ⟨Nat.le_of_ble_eq_true rfl, Nat.le_of_ble_eq_true rfl⟩ ⟨Nat.zero_le _, Nat.zero_le _⟩ rfl (Nat.le_of_ble_eq_true rfl) dX11_act_121) hS (by intro q hq; omega) (fun r116 H113 locs q114 k115 hS => ?_)
            obtain ⟨e9, hk7, zA⟩ := q114
            have e9 : _ = (gTel j (π 3 j) 6 6 x).1 := e9
            rw [e9]
            have zO := gSg_free zO k115 (by intro k hk q; simp only [List.length_cons, List.length_nil] at hk; omega)
            have h1 := gSg_free h1 k115 (by intro k hk q; simp only [List.length_cons, List.length_nil] at hk; omega)
            have h2 := gSg_free h2 k115 (by intro k hk q; simp only [List.length_cons, List.length_nil] at hk; omega)
            have zT := gSg_free zT k115 (by intro k hk q; simp only [List.length_cons, List.length_nil] at hk; omega)
            have zKT := gSg_free zKT k115 (by intro k hk q; simp only [List.length_cons, List.length_nil] at hk; omega)
            have zE := gSg_free zE k115 (by intro k hk q; simp only [List.length_cons, List.length_nil] at hk; omega)
            have zB := gSg_free zB k115 (by intro k hk q; simp only [List.length_cons, List.length_nil] at hk; omega)
            have zF := gSg_free zF k115 (by intro k hk q; simp only [List.length_cons, List.length_nil] at hk; omega)
            have zN := gSg_free zN k115 (by intro k hk q; simp only [List.length_cons, List.length_nil] at hk; omega)
            have zP := gSg_free zP k115 (by intro k hk q; simp only [List.length_cons, List.length_nil] at hk; omega)
            have zG := gRows_free zG k115 (by intro k hk q; omega)
            have zA : gSg G (B + 109) (gLA G (B + 109) (gTbs (gAst α (nI j) (π 3 j)) (gTel j (π 3 j) 6 6 x).2)) H113 := zA
            rw [← hQ]
            exact g_iret hx hb hr hlk hS dX11_act_124 (by rw [show gqAct π μ (nI j) a x = ((gTel j (π 3 j) 6 6 x).1, gTrs (gU μ 4 1 0) (gTel j (π 3 j) 6 6 x).2) from by simp only [gqAct, if_pos c5, if_pos c14, nI_clamp (show j < 2 ^ 31 by omega), gAct, ec, if_neg c103, if_neg c108], show gqActA π α (nI j) a x = gTbs (gAst α (nI j) (π 3 j)) (gTel j (π 3 j) 6 6 x).2 from by simp only [gqActA, if_pos c5, if_pos c14, nI_clamp (show j < 2 ^ 31 by omega), gAct, ec, if_neg c103, if_neg c108]]; exact ⟨rfl, _, hrr, zO, h1, hk7, ⟨_, h2⟩, ⟨_, _, _, zT⟩, zKT, ⟨_, hrk, zE⟩, zB, zF, ⟨_, zN⟩, zA, zP, zG⟩)
    · have c14 : ¬ (0 ≤ a ∧ a ≤ 2) := gB_0.mp c14
      refine lv_aload_n hx hb dX11_act_16 rfl (lv_at hl 0 rfl) ?_
      refine g_get (v := .ref (B + 109)) (T := TX11) (ci := 11) (N := 13) hx hb hown hK (gY_X11 hT) rfl (zO 0 _ rfl) 9 (by decide) (hT _ gf_X11_41) rfl dX11_act_17 ?_
      refine lv_iconst (v := 0) hx hb dX11_act_20 (by decide) ?_
      refine lv_iconst (v := 0) hx hb dX11_act_21 (by decide) ?_
      refine g_kv (g_runV (T := TX0) (ci := 0) (N := 4) (rest := []) hx hb hml hown hE hT (c_X0_starts l G (B + 109) α 0 0) gM_X0_starts gm_X11_227 gi_X0_starts gs_RX0_yX0_starts_yX0_starts rfl (zA 0 _ rfl) zA rfl hl.1 ⟨rfl, rfl⟩ ⟨Nat.le_of_ble_eq_true rfl, Nat.le_of_ble_eq_true rfl⟩ ⟨Nat.zero_le _, Nat.zero_le _⟩ rfl (Nat.le_of_ble_eq_true rfl) dX11_act_22) hS (by intro q hq; omega) (fun H117 locs q118 k119 hS => ?_)
      have zA := q118
      have zO := gSg_free zO k119 (by intro k hk q; simp only [List.length_cons, List.length_nil] at hk; omega)
      have h1 := gSg_free h1 k119 (by intro k hk q; simp only [List.length_cons, List.length_nil] at hk; omega)
      have hk7 := gSg_free hk7 k119 (by intro k hk q; simp only [List.length_cons, List.length_nil] at hk; omega)
      have h2 := gSg_free h2 k119 (by intro k hk q; simp only [List.length_cons, List.length_nil] at hk; omega)
      have zT := gSg_free zT k119 (by intro k hk q; simp only [List.length_cons, List.length_nil] at hk; omega)
      have zKT := gSg_free zKT k119 (by intro k hk q; simp only [List.length_cons, List.length_nil] at hk; omega)
      have zE := gSg_free zE k119 (by intro k hk q; simp only [List.length_cons, List.length_nil] at hk; omega)
      have zB := gSg_free zB k119 (by intro k hk q; simp only [List.length_cons, List.length_nil] at hk; omega)
      have zF := gSg_free zF k119 (by intro k hk q; simp only [List.length_cons, List.length_nil] at hk; omega)
      have zN := gSg_free zN k119 (by intro k hk q; simp only [List.length_cons, List.length_nil] at hk; omega)
      have zP := gSg_free zP k119 (by intro k hk q; simp only [List.length_cons, List.length_nil] at hk; omega)
      have zG := gRows_free zG k119 (by intro k hk q; omega)
      have zA : gSg G (B + 109) (gLA G (B + 109) (gAst α 0 0)) H117 := zA
      refine lv_iconst (v := 0) hx hb dX11_act_25 (by decide) ?_
      rw [← hQ]
      exact g_iret hx hb hr hlk hS dX11_act_26 (by rw [show gqAct π μ (nI j) a x = (0, gU μ 4 1 0) from by simp only [gqAct, if_pos c5, if_neg c14], show gqActA π α (nI j) a x = gAst α 0 0 from by simp only [gqActA, if_pos c5, if_neg c14]]; exact ⟨rfl, _, hrr, zO, h1, hk7, ⟨_, h2⟩, ⟨_, _, _, zT⟩, zKT, ⟨_, hrk, zE⟩, zB, zF, ⟨_, zN⟩, zA, zP, zG⟩)

set_option maxHeartbeats 4000000 in
set_option maxRecDepth 100000 in
theorem c_X11_undo (l : Launch) (G : gW) (B lp lk : Nat) (π πk μ α : gPS) (g : Nat → Int64) (hI : gInv πk) : gCI l yX11_undo cX11_undo 1 .int (gRm 2 61) G [.ref B] (fun H => gCN G B lp π lk πk μ α g H) (fun r H => r = (if μ 4 2 = 0 then -3 else πk 15 0) ∧ gCN G B (if μ 4 2 = 0 then lp else lk) (if μ 4 2 = 0 then π else πk) lk πk μ α g H) (fun q => B + 1 ≤ q ∧ q < B + 23) := by
  refine g_start (by decide) (Nat.le_of_ble_eq_true rfl) ?_
  intro pp_ ee_ s mm_ aa_ below meth cc_ ls Q hQ hX hE hP hl
  obtain ⟨hx, hb, hr, hml, hown, hT, hlk, hnm⟩ := hX
  have hK := hE.2.1
  obtain ⟨ρ, hrr, zO, h1, hk7, ⟨πt, lt, ρt, zT⟩, zKT, ⟨ρk, hrk, zE⟩, zB, zF, ⟨γ, zN⟩, zA, zP, zG⟩ := hP
  have hS : va_S (fun q => B + 1 ≤ q ∧ q < B + 23) s.heap s.heap [] := va_S.rf
  have hl : lv_has ls 1 [(0, .ref B)] := hl
  obtain ⟨⟨n, hn, hz, h0z⟩, hki, ⟨sn, hsn, hz3, hsp⟩, ⟨pn, hpn, hz4, hpo⟩, ⟨bn, hbn, hz5, hbo⟩, hfl9⟩ := id hI
  refine lv_aload_n hx hb dX11_undo_0 rfl (lv_at hl 0 rfl) ?_
  refine g_get (v := .int (μ 4 2)) (T := TX11) (ci := 11) (N := 13) hx hb hown hK (gY_X11 hT) rfl (zO 0 _ rfl) 3 (by decide) (hT _ gf_X11_223) rfl dX11_undo_1 ?_
  refine lv_if_ne (tgt := 10) hx hb dX11_undo_4 (by decide) (fun c1 => ?_) (fun c1 => ?_)
  · refine lv_aload_n hx hb dX11_undo_10 rfl (lv_at hl 0 rfl) ?_
    refine g_get (v := .ref (B + 1)) (T := TX11) (ci := 11) (N := 13) hx hb hown hK (gY_X11 hT) rfl (zO 0 _ rfl) 0 (by decide) (hT _ gf_X11_12) rfl dX11_undo_11 ?_
    refine lv_aload_n hx hb dX11_undo_14 rfl (lv_at hl 0 rfl) ?_
    refine g_get (v := .ref (B + 71)) (T := TX11) (ci := 11) (N := 13) hx hb hown hK (gY_X11 hT) rfl (zO 0 _ rfl) 2 (by decide) (hT _ gf_X11_21) rfl dX11_undo_15 ?_
    refine g_kv (g_runV (T := TX9) (ci := 9) (N := 16) (rest := []) hx hb hml hown hE hT (c_X9_becomes l G (B + 1) (B + 71) lp lk π ρ πk ρk (by omega) sn pn bn hz3 hsn hz4 hpn hz5 hbn) gM_X9_becomes gm_X11_152 gi_X9_becomes gs_RX9_yX9_becomes_yX9_becomes rfl (h1 0 _ rfl) ⟨h1, zE⟩ rfl hl.1 ⟨rfl, rfl⟩ ⟨Nat.le_of_ble_eq_true rfl, Nat.le_of_ble_eq_true rfl⟩ ⟨Nat.zero_le _, Nat.zero_le _⟩ rfl (Nat.le_of_ble_eq_true rfl) dX11_undo_18) hS (by intro q hq; omega) (fun H2 locs q3 k4 hS => ?_)
    obtain ⟨ρ9, hrw, h1⟩ := q3
    have zO := gSg_free zO k4 (by intro k hk q; simp only [List.length_cons, List.length_nil] at hk; omega)
    have hk7 := gSg_free hk7 k4 (by intro k hk q; simp only [List.length_cons, List.length_nil] at hk; omega)
    have zT := gSg_free zT k4 (by intro k hk q; simp only [List.length_cons, List.length_nil] at hk; omega)
    have zKT := gSg_free zKT k4 (by intro k hk q; simp only [List.length_cons, List.length_nil] at hk; omega)
    have zE := gSg_free zE k4 (by intro k hk q; simp only [List.length_cons, List.length_nil] at hk; omega)
    have zB := gSg_free zB k4 (by intro k hk q; simp only [List.length_cons, List.length_nil] at hk; omega)
    have zF := gSg_free zF k4 (by intro k hk q; simp only [List.length_cons, List.length_nil] at hk; omega)
    have zN := gSg_free zN k4 (by intro k hk q; simp only [List.length_cons, List.length_nil] at hk; omega)
    have zA := gSg_free zA k4 (by intro k hk q; simp only [List.length_cons, List.length_nil] at hk; omega)
    have zP := gSg_free zP k4 (by intro k hk q; simp only [List.length_cons, List.length_nil] at hk; omega)
    have zG := gRows_free zG k4 (by intro k hk q; omega)
    refine lv_aload_n hx hb dX11_undo_21 rfl (lv_at hl 0 rfl) ?_
    refine g_get (v := .ref (B + 1)) (T := TX11) (ci := 11) (N := 13) hx hb hown hK (gY_X11 hT) rfl (zO 0 _ rfl) 0 (by decide) (hT _ gf_X11_12) rfl dX11_undo_22 ?_
    refine g_get (v := .int (πk 15 0)) (T := TX9) (ci := 9) (N := 16) hx hb hown hK (gY_X9 hT) rfl (h1 0 _ rfl) 12 (by decide) (hT _ gf_X11_61) rfl dX11_undo_25 ?_
    rw [← hQ]
    exact g_iret hx hb hr hlk hS dX11_undo_28 (by rw [if_neg c1, if_neg c1, if_neg c1]; exact ⟨rfl, _, gRho_w hrk hrw hz3 hsn hz4 hpn hz5 hbn, zO, h1, hk7, ⟨_, _, _, zT⟩, zKT, ⟨_, hrk, zE⟩, zB, zF, ⟨_, zN⟩, zA, zP, zG⟩)
  · refine lv_bipush (v := (-3)) hx hb dX11_undo_7 (by decide) ?_
    rw [← hQ]
    exact g_iret hx hb hr hlk hS dX11_undo_9 (by rw [if_pos c1, if_pos c1, if_pos c1]; exact ⟨rfl, _, hrr, zO, h1, hk7, ⟨_, _, _, zT⟩, zKT, ⟨_, hrk, zE⟩, zB, zF, ⟨_, zN⟩, zA, zP, zG⟩)
