set_option maxHeartbeats 4000000 in
set_option maxRecDepth 100000 in
theorem c_X7_coos (l : Launch) (G : gW) (b : Nat) (k0 a : Nat) (f : gPS) (hd : k0 + 7 ≤ a ∨ a + 2 ≤ k0) (t : Nat) (ht : f 1 0 = nI t) (p : Nat) (v : Int32) (hi : f 1 1 = nI p) (hv : f 1 2 = v) (htl : t ≤ 3000) (x : Int32) : gCI l yX7_coos cX7_coos 3 .int (gRm 1 21) G [.ref b, .ref a, .int x] (fun H => gSg G a (gLA G a f) H) (fun r H => r = x + nI p ∧ gSg G a (gLA G a (gTbs f ([10]))) H) (fun q => a ≤ q ∧ q < a + 2) := by
  refine g_start (by decide) (Nat.le_of_ble_eq_true rfl) ?_
  intro pp_ ee_ s mm_ aa_ below meth cc_ ls Q hQ hX hE hP hl
  obtain ⟨hx, hb, hr, hml, hown, hT, hlk, hnm⟩ := hX
  have hK := hE.2.1
  have h1 := hP
  have hS : va_S (fun q => a ≤ q ∧ q < a + 2) s.heap s.heap [] := va_S.rf
  have hl : lv_has ls 3 [(0, .ref b), (1, .ref a), (2, .int x)] := hl
  refine lv_aload_n hx hb dX7_coos_0 rfl (lv_at hl 1 rfl) ?_
  refine lv_bipush (v := 10) hx hb dX7_coos_1 (by decide) ?_
  refine g_kv (g_runV (T := TX0) (ci := 0) (N := 4) (rest := []) hx hb hml hown hE hT (c_X0_begins l G a f t ht (by first | omega | (simp only [List.length_append, List.length_cons, List.length_nil]; omega)) 10) gM_X0_begins gm_X7_7 gi_X0_begins gs_RX0_yX0_begins_yX0_begins rfl (h1 0 _ rfl) h1 rfl hl.1 ⟨rfl, rfl⟩ ⟨Nat.le_of_ble_eq_true rfl, Nat.le_of_ble_eq_true rfl⟩ ⟨Nat.zero_le _, Nat.zero_le _⟩ rfl (Nat.le_of_ble_eq_true rfl) dX7_coos_3) hS (by intro q hq; omega) (fun H1 locs q2 k3 hS => ?_)
  have h1 := q2
  refine lv_iload_n hx hb dX7_coos_6 rfl (lv_at hl 2 rfl) ?_
  refine lv_aload_n hx hb dX7_coos_7 rfl (lv_at hl 1 rfl) ?_
  refine g_get (v := .int ((gTb1 f 10) 1 1)) (T := TX0) (ci := 0) (N := 4) hx hb hown hK (gY_X0 hT) rfl (h1 0 _ rfl) 2 (by decide) (hT _ gf_X7_13) rfl dX7_coos_8 ?_
  rw [show (gTb1 f 10) 1 1 = nI p from (by simp only [gTbs_1, gTb1_1]; exact hi)]
  refine lv_iadd hx hb dX7_coos_11 ?_
  rw [← hQ]
  exact g_iret hx hb hr hlk hS dX7_coos_12 ⟨rfl, by rw [show gTbs f ([10]) = gTb1 f 10 from by simp only [gTbs, List.foldl_append, List.foldl_cons, List.foldl_nil] <;> rfl]; exact h1⟩

set_option maxHeartbeats 4000000 in
set_option maxRecDepth 100000 in
theorem c_X1_coos_2 (l : Launch) (G : gW) (k0 a : Nat) (f : gPS) (hd : k0 + 7 ≤ a ∨ a + 2 ≤ k0) (t : Nat) (ht : f 1 0 = nI t) (p : Nat) (v : Int32) (hi : f 1 1 = nI p) (hv : f 1 2 = v) (htl : t ≤ 2990) (x : Int32) : gCI l yX1_coos cX1_coos 3 .int (gRm 2 43) G [.ref (k0 + 2), .ref a, .int x] (fun H => gSg G k0 (gKk G k0) H ∧ gSg G a (gLA G a f) H) (fun r H => r = x * 3 + nI p ∧ gSg G k0 (gKk G k0) H ∧ gSg G a (gLA G a (gTbs f ([30, 10]))) H) (fun q => a ≤ q ∧ q < a + 2) := by
  refine g_start (by decide) (Nat.le_of_ble_eq_true rfl) ?_
  intro pp_ ee_ s mm_ aa_ below meth cc_ ls Q hQ hX hE hP hl
  obtain ⟨hx, hb, hr, hml, hown, hT, hlk, hnm⟩ := hX
  have hK := hE.2.1
  obtain ⟨hk7, h1⟩ := hP
  have hS : va_S (fun q => a ≤ q ∧ q < a + 2) s.heap s.heap [] := va_S.rf
  have hl : lv_has ls 3 [(0, .ref (k0 + 2)), (1, .ref a), (2, .int x)] := hl
  refine lv_aload_n hx hb dX1_coos_0 rfl (lv_at hl 1 rfl) ?_
  refine lv_bipush (v := 30) hx hb dX1_coos_1 (by decide) ?_
  refine g_kv (g_runV (T := TX0) (ci := 0) (N := 4) (rest := []) hx hb hml hown hE hT (c_X0_begins l G a f t ht (by first | omega | (simp only [List.length_append, List.length_cons, List.length_nil]; omega)) 30) gM_X0_begins gm_X1_7 gi_X0_begins gs_RX0_yX0_begins_yX0_begins rfl (h1 0 _ rfl) h1 rfl hl.1 ⟨rfl, rfl⟩ ⟨Nat.le_of_ble_eq_true rfl, Nat.le_of_ble_eq_true rfl⟩ ⟨Nat.zero_le _, Nat.zero_le _⟩ rfl (Nat.le_of_ble_eq_true rfl) dX1_coos_3) hS (by intro q hq; omega) (fun H1 locs q2 k3 hS => ?_)
  have h1 := q2
  have hk7 := gSg_free hk7 k3 (by intro k hk q; simp only [List.length_cons, List.length_nil] at hk; omega)
  refine lv_aload_n hx hb dX1_coos_6 rfl (lv_at hl 0 rfl) ?_
  refine lv_aload_n hx hb dX1_coos_7 rfl (lv_at hl 1 rfl) ?_
  refine lv_iload_n hx hb dX1_coos_8 rfl (lv_at hl 2 rfl) ?_
  refine lv_iconst (v := 3) hx hb dX1_coos_9 (by decide) ?_
  refine lv_imul hx hb dX1_coos_10 ?_
  refine g_ki (g_runP (rest := []) (T := TX1) (ci := 1) (N := 0) (C := RX1) hx hb hml hown hE hT (c_X7_coos l G (k0 + 2) k0 a (gTb1 f 30) hd (t + 1) (gTb1_n ht) p v (by simp only [gTbs_1, gTb1_1]; exact hi) (by simp only [gTbs_2, gTb1_2]; exact hv) (by first | omega | (simp only [List.length_append, List.length_cons, List.length_nil]; omega)) (x * 3)) gM_X7_coos gm_X1_13 gi_X7_coos gx_879 gx_889 rfl (Or.inl rfl) (by decide) rfl (hk7 2 _ rfl) h1 rfl hl.1 ⟨rfl, rfl⟩ ⟨Nat.le_of_ble_eq_true rfl, Nat.le_of_ble_eq_true rfl⟩ ⟨Nat.zero_le _, Nat.zero_le _⟩ rfl (Nat.le_of_ble_eq_true rfl) dX1_coos_11) hS (by intro q hq; omega) (fun r8 H5 locs q6 k7 hS => ?_)
  obtain ⟨e9, h1⟩ := q6
  rw [e9]
  have hk7 := gSg_free hk7 k7 (by intro k hk q; simp only [List.length_cons, List.length_nil] at hk; omega)
  rw [← hQ]
  exact g_iret hx hb hr hlk hS dX1_coos_14 ⟨rfl, hk7, by rw [show gTbs f ([30, 10]) = gTbs (gTb1 f 30) ([10]) from by simp only [gTbs, List.foldl_append, List.foldl_cons, List.foldl_nil] <;> rfl]; exact h1⟩

set_option maxHeartbeats 4000000 in
set_option maxRecDepth 100000 in
theorem c_X1_coos_5 (l : Launch) (G : gW) (k0 a : Nat) (f : gPS) (hd : k0 + 7 ≤ a ∨ a + 2 ≤ k0) (t : Nat) (ht : f 1 0 = nI t) (p : Nat) (v : Int32) (hi : f 1 1 = nI p) (hv : f 1 2 = v) (htl : t ≤ 2990) (x : Int32) : gCI l yX1_coos cX1_coos 3 .int (gRm 2 43) G [.ref (k0 + 5), .ref a, .int x] (fun H => gSg G k0 (gKk G k0) H ∧ gSg G a (gLA G a f) H) (fun r H => r = x * 3 + nI p ∧ gSg G k0 (gKk G k0) H ∧ gSg G a (gLA G a (gTbs f ([30, 10]))) H) (fun q => a ≤ q ∧ q < a + 2) := by
  refine g_start (by decide) (Nat.le_of_ble_eq_true rfl) ?_
  intro pp_ ee_ s mm_ aa_ below meth cc_ ls Q hQ hX hE hP hl
  obtain ⟨hx, hb, hr, hml, hown, hT, hlk, hnm⟩ := hX
  have hK := hE.2.1
  obtain ⟨hk7, h1⟩ := hP
  have hS : va_S (fun q => a ≤ q ∧ q < a + 2) s.heap s.heap [] := va_S.rf
  have hl : lv_has ls 3 [(0, .ref (k0 + 5)), (1, .ref a), (2, .int x)] := hl
  refine lv_aload_n hx hb dX1_coos_0 rfl (lv_at hl 1 rfl) ?_
  refine lv_bipush (v := 30) hx hb dX1_coos_1 (by decide) ?_
  refine g_kv (g_runV (T := TX0) (ci := 0) (N := 4) (rest := []) hx hb hml hown hE hT (c_X0_begins l G a f t ht (by first | omega | (simp only [List.length_append, List.length_cons, List.length_nil]; omega)) 30) gM_X0_begins gm_X1_7 gi_X0_begins gs_RX0_yX0_begins_yX0_begins rfl (h1 0 _ rfl) h1 rfl hl.1 ⟨rfl, rfl⟩ ⟨Nat.le_of_ble_eq_true rfl, Nat.le_of_ble_eq_true rfl⟩ ⟨Nat.zero_le _, Nat.zero_le _⟩ rfl (Nat.le_of_ble_eq_true rfl) dX1_coos_3) hS (by intro q hq; omega) (fun H1 locs q2 k3 hS => ?_)
  have h1 := q2
  have hk7 := gSg_free hk7 k3 (by intro k hk q; simp only [List.length_cons, List.length_nil] at hk; omega)
  refine lv_aload_n hx hb dX1_coos_6 rfl (lv_at hl 0 rfl) ?_
  refine lv_aload_n hx hb dX1_coos_7 rfl (lv_at hl 1 rfl) ?_
  refine lv_iload_n hx hb dX1_coos_8 rfl (lv_at hl 2 rfl) ?_
  refine lv_iconst (v := 3) hx hb dX1_coos_9 (by decide) ?_
  refine lv_imul hx hb dX1_coos_10 ?_
  refine g_ki (g_runP (rest := []) (T := TX6) (ci := 6) (N := 0) (C := RX6) hx hb hml hown hE hT (c_X7_coos l G (k0 + 5) k0 a (gTb1 f 30) hd (t + 1) (gTb1_n ht) p v (by simp only [gTbs_1, gTb1_1]; exact hi) (by simp only [gTbs_2, gTb1_2]; exact hv) (by first | omega | (simp only [List.length_append, List.length_cons, List.length_nil]; omega)) (x * 3)) gM_X7_coos gm_X1_13 gi_X7_coos gx_879 gx_889 rfl (Or.inl rfl) (by decide) rfl (hk7 5 _ rfl) h1 rfl hl.1 ⟨rfl, rfl⟩ ⟨Nat.le_of_ble_eq_true rfl, Nat.le_of_ble_eq_true rfl⟩ ⟨Nat.zero_le _, Nat.zero_le _⟩ rfl (Nat.le_of_ble_eq_true rfl) dX1_coos_11) hS (by intro q hq; omega) (fun r8 H5 locs q6 k7 hS => ?_)
  obtain ⟨e9, h1⟩ := q6
  rw [e9]
  have hk7 := gSg_free hk7 k7 (by intro k hk q; simp only [List.length_cons, List.length_nil] at hk; omega)
  rw [← hQ]
  exact g_iret hx hb hr hlk hS dX1_coos_14 ⟨rfl, hk7, by rw [show gTbs f ([30, 10]) = gTbs (gTb1 f 30) ([10]) from by simp only [gTbs, List.foldl_append, List.foldl_cons, List.foldl_nil] <;> rfl]; exact h1⟩

set_option maxHeartbeats 4000000 in
set_option maxRecDepth 100000 in
theorem c_X3_coos_4 (l : Launch) (G : gW) (k0 a : Nat) (f : gPS) (hd : k0 + 7 ≤ a ∨ a + 2 ≤ k0) (t : Nat) (ht : f 1 0 = nI t) (p : Nat) (v : Int32) (hi : f 1 1 = nI p) (hv : f 1 2 = v) (htl : t ≤ 2990) (x : Int32) : gCI l yX3_coos cX3_coos 3 .int (gRm 2 43) G [.ref (k0 + 4), .ref a, .int x] (fun H => gSg G k0 (gKk G k0) H ∧ gSg G a (gLA G a f) H) (fun r H => r = -(x + nI p) ∧ gSg G k0 (gKk G k0) H ∧ gSg G a (gLA G a (gTbs f ([50, 10]))) H) (fun q => a ≤ q ∧ q < a + 2) := by
  refine g_start (by decide) (Nat.le_of_ble_eq_true rfl) ?_
  intro pp_ ee_ s mm_ aa_ below meth cc_ ls Q hQ hX hE hP hl
  obtain ⟨hx, hb, hr, hml, hown, hT, hlk, hnm⟩ := hX
  have hK := hE.2.1
  obtain ⟨hk7, h1⟩ := hP
  have hS : va_S (fun q => a ≤ q ∧ q < a + 2) s.heap s.heap [] := va_S.rf
  have hl : lv_has ls 3 [(0, .ref (k0 + 4)), (1, .ref a), (2, .int x)] := hl
  refine lv_aload_n hx hb dX3_coos_0 rfl (lv_at hl 1 rfl) ?_
  refine lv_bipush (v := 50) hx hb dX3_coos_1 (by decide) ?_
  refine g_kv (g_runV (T := TX0) (ci := 0) (N := 4) (rest := []) hx hb hml hown hE hT (c_X0_begins l G a f t ht (by first | omega | (simp only [List.length_append, List.length_cons, List.length_nil]; omega)) 50) gM_X0_begins gm_X3_17 gi_X0_begins gs_RX0_yX0_begins_yX0_begins rfl (h1 0 _ rfl) h1 rfl hl.1 ⟨rfl, rfl⟩ ⟨Nat.le_of_ble_eq_true rfl, Nat.le_of_ble_eq_true rfl⟩ ⟨Nat.zero_le _, Nat.zero_le _⟩ rfl (Nat.le_of_ble_eq_true rfl) dX3_coos_3) hS (by intro q hq; omega) (fun H1 locs q2 k3 hS => ?_)
  have h1 := q2
  have hk7 := gSg_free hk7 k3 (by intro k hk q; simp only [List.length_cons, List.length_nil] at hk; omega)
  refine lv_aload_n hx hb dX3_coos_6 rfl (lv_at hl 0 rfl) ?_
  refine lv_aload_n hx hb dX3_coos_7 rfl (lv_at hl 1 rfl) ?_
  refine lv_iload_n hx hb dX3_coos_8 rfl (lv_at hl 2 rfl) ?_
  refine g_ki (g_runP (rest := []) (T := TX3) (ci := 3) (N := 0) (C := RX3) hx hb hml hown hE hT (c_X7_coos l G (k0 + 4) k0 a (gTb1 f 50) hd (t + 1) (gTb1_n ht) p v (by simp only [gTbs_1, gTb1_1]; exact hi) (by simp only [gTbs_2, gTb1_2]; exact hv) (by first | omega | (simp only [List.length_append, List.length_cons, List.length_nil]; omega)) x) gM_X7_coos gm_X3_23 gi_X7_coos gx_s2 gx_247 rfl (Or.inr gx_922) (by decide) rfl (hk7 4 _ rfl) h1 rfl hl.1 ⟨rfl, rfl⟩ ⟨Nat.le_of_ble_eq_true rfl, Nat.le_of_ble_eq_true rfl⟩ ⟨Nat.zero_le _, Nat.zero_le _⟩ rfl (Nat.le_of_ble_eq_true rfl) dX3_coos_9) hS (by intro q hq; omega) (fun r8 H5 locs q6 k7 hS => ?_)
  obtain ⟨e9, h1⟩ := q6
  rw [e9]
  have hk7 := gSg_free hk7 k7 (by intro k hk q; simp only [List.length_cons, List.length_nil] at hk; omega)
  refine lv_ineg hx hb dX3_coos_12 ?_
  rw [← hQ]
  exact g_iret hx hb hr hlk hS dX3_coos_13 ⟨rfl, hk7, by rw [show gTbs f ([50, 10]) = gTbs (gTb1 f 50) ([10]) from by simp only [gTbs, List.foldl_append, List.foldl_cons, List.foldl_nil] <;> rfl]; exact h1⟩

set_option maxHeartbeats 4000000 in
set_option maxRecDepth 100000 in
theorem c_X10_coos_6 (l : Launch) (G : gW) (k0 a : Nat) (f : gPS) (hd : k0 + 7 ≤ a ∨ a + 2 ≤ k0) (t : Nat) (ht : f 1 0 = nI t) (p : Nat) (v : Int32) (hi : f 1 1 = nI p) (hv : f 1 2 = v) (htl : t ≤ 2990) (x : Int32) : gCI l yX10_coos cX10_coos 3 .int (gRm 2 43) G [.ref (k0 + 6), .ref a, .int x] (fun H => gSg G k0 (gKk G k0) H ∧ gSg G a (gLA G a f) H) (fun r H => r = (x + nI p) ^^^ v ∧ gSg G k0 (gKk G k0) H ∧ gSg G a (gLA G a (gTbs f ([71, 10]))) H) (fun q => a ≤ q ∧ q < a + 2) := by
  refine g_start (by decide) (Nat.le_of_ble_eq_true rfl) ?_
  intro pp_ ee_ s mm_ aa_ below meth cc_ ls Q hQ hX hE hP hl
  obtain ⟨hx, hb, hr, hml, hown, hT, hlk, hnm⟩ := hX
  have hK := hE.2.1
  obtain ⟨hk7, h1⟩ := hP
  have hS : va_S (fun q => a ≤ q ∧ q < a + 2) s.heap s.heap [] := va_S.rf
  have hl : lv_has ls 3 [(0, .ref (k0 + 6)), (1, .ref a), (2, .int x)] := hl
  refine lv_aload_n hx hb dX10_coos_0 rfl (lv_at hl 1 rfl) ?_
  refine lv_bipush (v := 71) hx hb dX10_coos_1 (by decide) ?_
  refine g_kv (g_runV (T := TX0) (ci := 0) (N := 4) (rest := []) hx hb hml hown hE hT (c_X0_begins l G a f t ht (by first | omega | (simp only [List.length_append, List.length_cons, List.length_nil]; omega)) 71) gM_X0_begins gm_X10_25 gi_X0_begins gs_RX0_yX0_begins_yX0_begins rfl (h1 0 _ rfl) h1 rfl hl.1 ⟨rfl, rfl⟩ ⟨Nat.le_of_ble_eq_true rfl, Nat.le_of_ble_eq_true rfl⟩ ⟨Nat.zero_le _, Nat.zero_le _⟩ rfl (Nat.le_of_ble_eq_true rfl) dX10_coos_3) hS (by intro q hq; omega) (fun H1 locs q2 k3 hS => ?_)
  have h1 := q2
  have hk7 := gSg_free hk7 k3 (by intro k hk q; simp only [List.length_cons, List.length_nil] at hk; omega)
  refine lv_aload_n hx hb dX10_coos_6 rfl (lv_at hl 0 rfl) ?_
  refine lv_aload_n hx hb dX10_coos_7 rfl (lv_at hl 1 rfl) ?_
  refine lv_iload_n hx hb dX10_coos_8 rfl (lv_at hl 2 rfl) ?_
  refine g_ki (g_runP (rest := []) (T := TX10) (ci := 10) (N := 0) (C := RX10) hx hb hml hown hE hT (c_X7_coos l G (k0 + 6) k0 a (gTb1 f 71) hd (t + 1) (gTb1_n ht) p v (by simp only [gTbs_1, gTb1_1]; exact hi) (by simp only [gTbs_2, gTb1_2]; exact hv) (by first | omega | (simp only [List.length_append, List.length_cons, List.length_nil]; omega)) x) gM_X7_coos gm_X10_35 gi_X7_coos gx_s4 gx_270 rfl (Or.inr gx_950) (by decide) rfl (hk7 6 _ rfl) h1 rfl hl.1 ⟨rfl, rfl⟩ ⟨Nat.le_of_ble_eq_true rfl, Nat.le_of_ble_eq_true rfl⟩ ⟨Nat.zero_le _, Nat.zero_le _⟩ rfl (Nat.le_of_ble_eq_true rfl) dX10_coos_9) hS (by intro q hq; omega) (fun r8 H5 locs q6 k7 hS => ?_)
  obtain ⟨e9, h1⟩ := q6
  rw [e9]
  have hk7 := gSg_free hk7 k7 (by intro k hk q; simp only [List.length_cons, List.length_nil] at hk; omega)
  refine lv_aload_n hx hb dX10_coos_12 rfl (lv_at hl 1 rfl) ?_
  refine g_get (v := .int ((gTbs (gTb1 f 71) ([10])) 1 2)) (T := TX0) (ci := 0) (N := 4) hx hb hown hK (gY_X0 hT) rfl (h1 0 _ rfl) 3 (by decide) (hT _ gf_X10_38) rfl dX10_coos_13 ?_
  rw [show (gTbs (gTb1 f 71) ([10])) 1 2 = v from (by simp only [gTbs_2, gTb1_2]; exact hv)]
  refine lv_ixor hx hb dX10_coos_16 ?_
  rw [← hQ]
  exact g_iret hx hb hr hlk hS dX10_coos_17 ⟨rfl, hk7, by rw [show gTbs f ([71, 10]) = gTbs (gTb1 f 71) ([10]) from by simp only [gTbs, List.foldl_append, List.foldl_cons, List.foldl_nil] <;> rfl]; exact h1⟩

set_option maxHeartbeats 4000000 in
set_option maxRecDepth 100000 in
theorem c_X7_flies_0 (l : Launch) (G : gW) (k0 a : Nat) (f : gPS) (hd : k0 + 7 ≤ a ∨ a + 2 ≤ k0) (t : Nat) (ht : f 1 0 = nI t) (p : Nat) (v : Int32) (hi : f 1 1 = nI p) (hv : f 1 2 = v) (htl : t ≤ 2000) (x : Int32) : gCI l yX7_flies cX7_flies 3 .int (gRm 2 43) G [.ref (k0 + 0), .ref a, .int x] (fun H => gSg G k0 (gKk G k0) H ∧ gSg G a (gLA G a f) H) (fun r H => r = (gCoo p v 0 x).1 - v ∧ gSg G k0 (gKk G k0) H ∧ gSg G a (gLA G a (gTbs f ([11] ++ (gCoo p v 0 x).2))) H) (fun q => a ≤ q ∧ q < a + 2) := by
  refine g_start (by decide) (Nat.le_of_ble_eq_true rfl) ?_
  intro pp_ ee_ s mm_ aa_ below meth cc_ ls Q hQ hX hE hP hl
  obtain ⟨hx, hb, hr, hml, hown, hT, hlk, hnm⟩ := hX
  have hK := hE.2.1
  obtain ⟨hk7, h1⟩ := hP
  have hS : va_S (fun q => a ≤ q ∧ q < a + 2) s.heap s.heap [] := va_S.rf
  have hl : lv_has ls 3 [(0, .ref (k0 + 0)), (1, .ref a), (2, .int x)] := hl
  have hn0 := gCoo_l p v 0 x
  refine lv_aload_n hx hb dX7_flies_0 rfl (lv_at hl 1 rfl) ?_
  refine lv_bipush (v := 11) hx hb dX7_flies_1 (by decide) ?_
  refine g_kv (g_runV (T := TX0) (ci := 0) (N := 4) (rest := []) hx hb hml hown hE hT (c_X0_begins l G a f t ht (by first | omega | (simp only [List.length_append, List.length_cons, List.length_nil]; omega)) 11) gM_X0_begins gm_X7_7 gi_X0_begins gs_RX0_yX0_begins_yX0_begins rfl (h1 0 _ rfl) h1 rfl hl.1 ⟨rfl, rfl⟩ ⟨Nat.le_of_ble_eq_true rfl, Nat.le_of_ble_eq_true rfl⟩ ⟨Nat.zero_le _, Nat.zero_le _⟩ rfl (Nat.le_of_ble_eq_true rfl) dX7_flies_3) hS (by intro q hq; omega) (fun H1 locs q2 k3 hS => ?_)
  have h1 := q2
  have hk7 := gSg_free hk7 k3 (by intro k hk q; simp only [List.length_cons, List.length_nil] at hk; omega)
  refine lv_aload_n hx hb dX7_flies_6 rfl (lv_at hl 0 rfl) ?_
  refine lv_aload_n hx hb dX7_flies_7 rfl (lv_at hl 1 rfl) ?_
  refine lv_iload_n hx hb dX7_flies_8 rfl (lv_at hl 2 rfl) ?_
  refine g_ki (g_runW (x := yX7_coos) (rest := []) (T := TX7) (ci := 7) (N := 0) (C := RX7) hx hb hml hown hE hT (c_X7_coos l G (k0 + 0) k0 a (gTb1 f 11) hd (t + 1) (gTb1_n ht) p v (by simp only [gTbs_1, gTb1_1]; exact hi) (by simp only [gTbs_2, gTb1_2]; exact hv) (by first | omega | (simp only [List.length_append, List.length_cons, List.length_nil]; omega)) x) gM_X7_coos gm_X7_17 gi_X7_coos gs_RX7_yX7_coos_yX7_coos gx_879 gi_X7_coos gc_X7_coos ⟨by decide, by decide, by decide +kernel⟩ rfl (hk7 0 _ rfl) h1 rfl hl.1 ⟨rfl, rfl⟩ ⟨Nat.le_of_ble_eq_true rfl, Nat.le_of_ble_eq_true rfl⟩ ⟨Nat.zero_le _, Nat.zero_le _⟩ rfl (Nat.le_of_ble_eq_true rfl) dX7_flies_9) hS (by intro q hq; omega) (fun r8 H5 locs q6 k7 hS => ?_)
  obtain ⟨e9, h1⟩ := q6
  rw [e9]
  have hk7 := gSg_free hk7 k7 (by intro k hk q; simp only [List.length_cons, List.length_nil] at hk; omega)
  refine lv_aload_n hx hb dX7_flies_12 rfl (lv_at hl 1 rfl) ?_
  refine g_get (v := .int ((gTbs (gTb1 f 11) ([10])) 1 2)) (T := TX0) (ci := 0) (N := 4) hx hb hown hK (gY_X0 hT) rfl (h1 0 _ rfl) 3 (by decide) (hT _ gf_X7_23) rfl dX7_flies_13 ?_
  rw [show (gTbs (gTb1 f 11) ([10])) 1 2 = v from (by simp only [gTbs_2, gTb1_2]; exact hv)]
  refine lv_isub hx hb dX7_flies_16 ?_
  rw [← hQ]
  exact g_iret hx hb hr hlk hS dX7_flies_17 ⟨rfl, hk7, by rw [show gTbs f ([11] ++ (gCoo p v 0 x).2) = gTbs (gTb1 f 11) ([10]) from by simp only [gTbs, List.foldl_append, List.foldl_cons, List.foldl_nil] <;> rfl]; exact h1⟩

set_option maxHeartbeats 4000000 in
set_option maxRecDepth 100000 in
theorem c_X7_flies_1 (l : Launch) (G : gW) (k0 a : Nat) (f : gPS) (hd : k0 + 7 ≤ a ∨ a + 2 ≤ k0) (t : Nat) (ht : f 1 0 = nI t) (p : Nat) (v : Int32) (hi : f 1 1 = nI p) (hv : f 1 2 = v) (htl : t ≤ 2000) (x : Int32) : gCI l yX7_flies cX7_flies 3 .int (gRm 2 43) G [.ref (k0 + 1), .ref a, .int x] (fun H => gSg G k0 (gKk G k0) H ∧ gSg G a (gLA G a f) H) (fun r H => r = (gCoo p v 1 x).1 - v ∧ gSg G k0 (gKk G k0) H ∧ gSg G a (gLA G a (gTbs f ([11] ++ (gCoo p v 1 x).2))) H) (fun q => a ≤ q ∧ q < a + 2) := by
  refine g_start (by decide) (Nat.le_of_ble_eq_true rfl) ?_
  intro pp_ ee_ s mm_ aa_ below meth cc_ ls Q hQ hX hE hP hl
  obtain ⟨hx, hb, hr, hml, hown, hT, hlk, hnm⟩ := hX
  have hK := hE.2.1
  obtain ⟨hk7, h1⟩ := hP
  have hS : va_S (fun q => a ≤ q ∧ q < a + 2) s.heap s.heap [] := va_S.rf
  have hl : lv_has ls 3 [(0, .ref (k0 + 1)), (1, .ref a), (2, .int x)] := hl
  have hn0 := gCoo_l p v 1 x
  refine lv_aload_n hx hb dX7_flies_0 rfl (lv_at hl 1 rfl) ?_
  refine lv_bipush (v := 11) hx hb dX7_flies_1 (by decide) ?_
  refine g_kv (g_runV (T := TX0) (ci := 0) (N := 4) (rest := []) hx hb hml hown hE hT (c_X0_begins l G a f t ht (by first | omega | (simp only [List.length_append, List.length_cons, List.length_nil]; omega)) 11) gM_X0_begins gm_X7_7 gi_X0_begins gs_RX0_yX0_begins_yX0_begins rfl (h1 0 _ rfl) h1 rfl hl.1 ⟨rfl, rfl⟩ ⟨Nat.le_of_ble_eq_true rfl, Nat.le_of_ble_eq_true rfl⟩ ⟨Nat.zero_le _, Nat.zero_le _⟩ rfl (Nat.le_of_ble_eq_true rfl) dX7_flies_3) hS (by intro q hq; omega) (fun H1 locs q2 k3 hS => ?_)
  have h1 := q2
  have hk7 := gSg_free hk7 k3 (by intro k hk q; simp only [List.length_cons, List.length_nil] at hk; omega)
  refine lv_aload_n hx hb dX7_flies_6 rfl (lv_at hl 0 rfl) ?_
  refine lv_aload_n hx hb dX7_flies_7 rfl (lv_at hl 1 rfl) ?_
  refine lv_iload_n hx hb dX7_flies_8 rfl (lv_at hl 2 rfl) ?_
  refine g_ki (g_runW (x := yX7_coos) (rest := []) (T := TX2) (ci := 2) (N := 0) (C := RX2) hx hb hml hown hE hT (c_X7_coos l G (k0 + 1) k0 a (gTb1 f 11) hd (t + 1) (gTb1_n ht) p v (by simp only [gTbs_1, gTb1_1]; exact hi) (by simp only [gTbs_2, gTb1_2]; exact hv) (by first | omega | (simp only [List.length_append, List.length_cons, List.length_nil]; omega)) x) gM_X7_coos gm_X7_17 gi_X7_coos gs_RX2_GoodNewsPigeons_Pigeon_coos_LGoodNewsPigeons_Act_I_I_yX7_coos gx_879 gi_X7_coos gc_X7_coos ⟨by decide, by decide, by decide +kernel⟩ rfl (hk7 1 _ rfl) h1 rfl hl.1 ⟨rfl, rfl⟩ ⟨Nat.le_of_ble_eq_true rfl, Nat.le_of_ble_eq_true rfl⟩ ⟨Nat.zero_le _, Nat.zero_le _⟩ rfl (Nat.le_of_ble_eq_true rfl) dX7_flies_9) hS (by intro q hq; omega) (fun r8 H5 locs q6 k7 hS => ?_)
  obtain ⟨e9, h1⟩ := q6
  rw [e9]
  have hk7 := gSg_free hk7 k7 (by intro k hk q; simp only [List.length_cons, List.length_nil] at hk; omega)
  refine lv_aload_n hx hb dX7_flies_12 rfl (lv_at hl 1 rfl) ?_
  refine g_get (v := .int ((gTbs (gTb1 f 11) ([10])) 1 2)) (T := TX0) (ci := 0) (N := 4) hx hb hown hK (gY_X0 hT) rfl (h1 0 _ rfl) 3 (by decide) (hT _ gf_X7_23) rfl dX7_flies_13 ?_
  rw [show (gTbs (gTb1 f 11) ([10])) 1 2 = v from (by simp only [gTbs_2, gTb1_2]; exact hv)]
  refine lv_isub hx hb dX7_flies_16 ?_
  rw [← hQ]
  exact g_iret hx hb hr hlk hS dX7_flies_17 ⟨rfl, hk7, by rw [show gTbs f ([11] ++ (gCoo p v 1 x).2) = gTbs (gTb1 f 11) ([10]) from by simp only [gTbs, List.foldl_append, List.foldl_cons, List.foldl_nil] <;> rfl]; exact h1⟩

set_option maxHeartbeats 4000000 in
set_option maxRecDepth 100000 in
theorem c_X7_flies_2 (l : Launch) (G : gW) (k0 a : Nat) (f : gPS) (hd : k0 + 7 ≤ a ∨ a + 2 ≤ k0) (t : Nat) (ht : f 1 0 = nI t) (p : Nat) (v : Int32) (hi : f 1 1 = nI p) (hv : f 1 2 = v) (htl : t ≤ 2000) (x : Int32) : gCI l yX7_flies cX7_flies 3 .int (gRm 3 65) G [.ref (k0 + 2), .ref a, .int x] (fun H => gSg G k0 (gKk G k0) H ∧ gSg G a (gLA G a f) H) (fun r H => r = (gCoo p v 2 x).1 - v ∧ gSg G k0 (gKk G k0) H ∧ gSg G a (gLA G a (gTbs f ([11] ++ (gCoo p v 2 x).2))) H) (fun q => a ≤ q ∧ q < a + 2) := by
  refine g_start (by decide) (Nat.le_of_ble_eq_true rfl) ?_
  intro pp_ ee_ s mm_ aa_ below meth cc_ ls Q hQ hX hE hP hl
  obtain ⟨hx, hb, hr, hml, hown, hT, hlk, hnm⟩ := hX
  have hK := hE.2.1
  obtain ⟨hk7, h1⟩ := hP
  have hS : va_S (fun q => a ≤ q ∧ q < a + 2) s.heap s.heap [] := va_S.rf
  have hl : lv_has ls 3 [(0, .ref (k0 + 2)), (1, .ref a), (2, .int x)] := hl
  have hn0 := gCoo_l p v 2 x
  refine lv_aload_n hx hb dX7_flies_0 rfl (lv_at hl 1 rfl) ?_
  refine lv_bipush (v := 11) hx hb dX7_flies_1 (by decide) ?_
  refine g_kv (g_runV (T := TX0) (ci := 0) (N := 4) (rest := []) hx hb hml hown hE hT (c_X0_begins l G a f t ht (by first | omega | (simp only [List.length_append, List.length_cons, List.length_nil]; omega)) 11) gM_X0_begins gm_X7_7 gi_X0_begins gs_RX0_yX0_begins_yX0_begins rfl (h1 0 _ rfl) h1 rfl hl.1 ⟨rfl, rfl⟩ ⟨Nat.le_of_ble_eq_true rfl, Nat.le_of_ble_eq_true rfl⟩ ⟨Nat.zero_le _, Nat.zero_le _⟩ rfl (Nat.le_of_ble_eq_true rfl) dX7_flies_3) hS (by intro q hq; omega) (fun H1 locs q2 k3 hS => ?_)
  have h1 := q2
  have hk7 := gSg_free hk7 k3 (by intro k hk q; simp only [List.length_cons, List.length_nil] at hk; omega)
  refine lv_aload_n hx hb dX7_flies_6 rfl (lv_at hl 0 rfl) ?_
  refine lv_aload_n hx hb dX7_flies_7 rfl (lv_at hl 1 rfl) ?_
  refine lv_iload_n hx hb dX7_flies_8 rfl (lv_at hl 2 rfl) ?_
  refine g_ki (g_runW (x := yX7_coos) (rest := []) (T := TX1) (ci := 1) (N := 0) (C := RX1) hx hb hml hown hE hT (c_X1_coos_2 l G  k0 a (gTb1 f 11) hd (t + 1) (gTb1_n ht) p v (by simp only [gTbs_1, gTb1_1]; exact hi) (by simp only [gTbs_2, gTb1_2]; exact hv) (by first | omega | (simp only [List.length_append, List.length_cons, List.length_nil]; omega)) x) gM_X1_coos gm_X7_17 gi_X1_coos gs_RX1_GoodNewsPigeons_Pigeon_coos_LGoodNewsPigeons_Act_I_I_yX1_coos gx_879 gi_X7_coos gc_X7_coos ⟨by decide, by decide, by decide +kernel⟩ rfl (hk7 2 _ rfl) ⟨hk7, h1⟩ rfl hl.1 ⟨rfl, rfl⟩ ⟨Nat.le_of_ble_eq_true rfl, Nat.le_of_ble_eq_true rfl⟩ ⟨Nat.zero_le _, Nat.zero_le _⟩ rfl (Nat.le_of_ble_eq_true rfl) dX7_flies_9) hS (by intro q hq; omega) (fun r8 H5 locs q6 k7 hS => ?_)
  obtain ⟨e9, hk7, h1⟩ := q6
  rw [e9]
  refine lv_aload_n hx hb dX7_flies_12 rfl (lv_at hl 1 rfl) ?_
  refine g_get (v := .int ((gTbs (gTb1 f 11) ([30, 10])) 1 2)) (T := TX0) (ci := 0) (N := 4) hx hb hown hK (gY_X0 hT) rfl (h1 0 _ rfl) 3 (by decide) (hT _ gf_X7_23) rfl dX7_flies_13 ?_
  rw [show (gTbs (gTb1 f 11) ([30, 10])) 1 2 = v from (by simp only [gTbs_2, gTb1_2]; exact hv)]
  refine lv_isub hx hb dX7_flies_16 ?_
  rw [← hQ]
  exact g_iret hx hb hr hlk hS dX7_flies_17 ⟨rfl, hk7, by rw [show gTbs f ([11] ++ (gCoo p v 2 x).2) = gTbs (gTb1 f 11) ([30, 10]) from by simp only [gTbs, List.foldl_append, List.foldl_cons, List.foldl_nil] <;> rfl]; exact h1⟩

set_option maxHeartbeats 4000000 in
set_option maxRecDepth 100000 in
theorem c_X7_flies_3 (l : Launch) (G : gW) (k0 a : Nat) (f : gPS) (hd : k0 + 7 ≤ a ∨ a + 2 ≤ k0) (t : Nat) (ht : f 1 0 = nI t) (p : Nat) (v : Int32) (hi : f 1 1 = nI p) (hv : f 1 2 = v) (htl : t ≤ 2000) (x : Int32) : gCI l yX7_flies cX7_flies 3 .int (gRm 2 43) G [.ref (k0 + 3), .ref a, .int x] (fun H => gSg G k0 (gKk G k0) H ∧ gSg G a (gLA G a f) H) (fun r H => r = (gCoo p v 3 x).1 - v ∧ gSg G k0 (gKk G k0) H ∧ gSg G a (gLA G a (gTbs f ([11] ++ (gCoo p v 3 x).2))) H) (fun q => a ≤ q ∧ q < a + 2) := by
  refine g_start (by decide) (Nat.le_of_ble_eq_true rfl) ?_
  intro pp_ ee_ s mm_ aa_ below meth cc_ ls Q hQ hX hE hP hl
  obtain ⟨hx, hb, hr, hml, hown, hT, hlk, hnm⟩ := hX
  have hK := hE.2.1
  obtain ⟨hk7, h1⟩ := hP
  have hS : va_S (fun q => a ≤ q ∧ q < a + 2) s.heap s.heap [] := va_S.rf
  have hl : lv_has ls 3 [(0, .ref (k0 + 3)), (1, .ref a), (2, .int x)] := hl
  have hn0 := gCoo_l p v 3 x
  refine lv_aload_n hx hb dX7_flies_0 rfl (lv_at hl 1 rfl) ?_
  refine lv_bipush (v := 11) hx hb dX7_flies_1 (by decide) ?_
  refine g_kv (g_runV (T := TX0) (ci := 0) (N := 4) (rest := []) hx hb hml hown hE hT (c_X0_begins l G a f t ht (by first | omega | (simp only [List.length_append, List.length_cons, List.length_nil]; omega)) 11) gM_X0_begins gm_X7_7 gi_X0_begins gs_RX0_yX0_begins_yX0_begins rfl (h1 0 _ rfl) h1 rfl hl.1 ⟨rfl, rfl⟩ ⟨Nat.le_of_ble_eq_true rfl, Nat.le_of_ble_eq_true rfl⟩ ⟨Nat.zero_le _, Nat.zero_le _⟩ rfl (Nat.le_of_ble_eq_true rfl) dX7_flies_3) hS (by intro q hq; omega) (fun H1 locs q2 k3 hS => ?_)
  have h1 := q2
  have hk7 := gSg_free hk7 k3 (by intro k hk q; simp only [List.length_cons, List.length_nil] at hk; omega)
  refine lv_aload_n hx hb dX7_flies_6 rfl (lv_at hl 0 rfl) ?_
  refine lv_aload_n hx hb dX7_flies_7 rfl (lv_at hl 1 rfl) ?_
  refine lv_iload_n hx hb dX7_flies_8 rfl (lv_at hl 2 rfl) ?_
  refine g_ki (g_runW (x := yX7_coos) (rest := []) (T := TX4) (ci := 4) (N := 0) (C := RX4) hx hb hml hown hE hT (c_X7_coos l G (k0 + 3) k0 a (gTb1 f 11) hd (t + 1) (gTb1_n ht) p v (by simp only [gTbs_1, gTb1_1]; exact hi) (by simp only [gTbs_2, gTb1_2]; exact hv) (by first | omega | (simp only [List.length_append, List.length_cons, List.length_nil]; omega)) x) gM_X7_coos gm_X7_17 gi_X7_coos gs_RX4_GoodNewsPigeons_Pigeon_coos_LGoodNewsPigeons_Act_I_I_yX7_coos gx_879 gi_X7_coos gc_X7_coos ⟨by decide, by decide, by decide +kernel⟩ rfl (hk7 3 _ rfl) h1 rfl hl.1 ⟨rfl, rfl⟩ ⟨Nat.le_of_ble_eq_true rfl, Nat.le_of_ble_eq_true rfl⟩ ⟨Nat.zero_le _, Nat.zero_le _⟩ rfl (Nat.le_of_ble_eq_true rfl) dX7_flies_9) hS (by intro q hq; omega) (fun r8 H5 locs q6 k7 hS => ?_)
  obtain ⟨e9, h1⟩ := q6
  rw [e9]
  have hk7 := gSg_free hk7 k7 (by intro k hk q; simp only [List.length_cons, List.length_nil] at hk; omega)
  refine lv_aload_n hx hb dX7_flies_12 rfl (lv_at hl 1 rfl) ?_
  refine g_get (v := .int ((gTbs (gTb1 f 11) ([10])) 1 2)) (T := TX0) (ci := 0) (N := 4) hx hb hown hK (gY_X0 hT) rfl (h1 0 _ rfl) 3 (by decide) (hT _ gf_X7_23) rfl dX7_flies_13 ?_
  rw [show (gTbs (gTb1 f 11) ([10])) 1 2 = v from (by simp only [gTbs_2, gTb1_2]; exact hv)]
  refine lv_isub hx hb dX7_flies_16 ?_
  rw [← hQ]
  exact g_iret hx hb hr hlk hS dX7_flies_17 ⟨rfl, hk7, by rw [show gTbs f ([11] ++ (gCoo p v 3 x).2) = gTbs (gTb1 f 11) ([10]) from by simp only [gTbs, List.foldl_append, List.foldl_cons, List.foldl_nil] <;> rfl]; exact h1⟩

set_option maxHeartbeats 4000000 in
set_option maxRecDepth 100000 in
theorem c_X7_flies_4 (l : Launch) (G : gW) (k0 a : Nat) (f : gPS) (hd : k0 + 7 ≤ a ∨ a + 2 ≤ k0) (t : Nat) (ht : f 1 0 = nI t) (p : Nat) (v : Int32) (hi : f 1 1 = nI p) (hv : f 1 2 = v) (htl : t ≤ 2000) (x : Int32) : gCI l yX7_flies cX7_flies 3 .int (gRm 3 65) G [.ref (k0 + 4), .ref a, .int x] (fun H => gSg G k0 (gKk G k0) H ∧ gSg G a (gLA G a f) H) (fun r H => r = (gCoo p v 4 x).1 - v ∧ gSg G k0 (gKk G k0) H ∧ gSg G a (gLA G a (gTbs f ([11] ++ (gCoo p v 4 x).2))) H) (fun q => a ≤ q ∧ q < a + 2) := by
  refine g_start (by decide) (Nat.le_of_ble_eq_true rfl) ?_
  intro pp_ ee_ s mm_ aa_ below meth cc_ ls Q hQ hX hE hP hl
  obtain ⟨hx, hb, hr, hml, hown, hT, hlk, hnm⟩ := hX
  have hK := hE.2.1
  obtain ⟨hk7, h1⟩ := hP
  have hS : va_S (fun q => a ≤ q ∧ q < a + 2) s.heap s.heap [] := va_S.rf
  have hl : lv_has ls 3 [(0, .ref (k0 + 4)), (1, .ref a), (2, .int x)] := hl
  have hn0 := gCoo_l p v 4 x
  refine lv_aload_n hx hb dX7_flies_0 rfl (lv_at hl 1 rfl) ?_
  refine lv_bipush (v := 11) hx hb dX7_flies_1 (by decide) ?_
  refine g_kv (g_runV (T := TX0) (ci := 0) (N := 4) (rest := []) hx hb hml hown hE hT (c_X0_begins l G a f t ht (by first | omega | (simp only [List.length_append, List.length_cons, List.length_nil]; omega)) 11) gM_X0_begins gm_X7_7 gi_X0_begins gs_RX0_yX0_begins_yX0_begins rfl (h1 0 _ rfl) h1 rfl hl.1 ⟨rfl, rfl⟩ ⟨Nat.le_of_ble_eq_true rfl, Nat.le_of_ble_eq_true rfl⟩ ⟨Nat.zero_le _, Nat.zero_le _⟩ rfl (Nat.le_of_ble_eq_true rfl) dX7_flies_3) hS (by intro q hq; omega) (fun H1 locs q2 k3 hS => ?_)
  have h1 := q2
  have hk7 := gSg_free hk7 k3 (by intro k hk q; simp only [List.length_cons, List.length_nil] at hk; omega)
  refine lv_aload_n hx hb dX7_flies_6 rfl (lv_at hl 0 rfl) ?_
  refine lv_aload_n hx hb dX7_flies_7 rfl (lv_at hl 1 rfl) ?_
  refine lv_iload_n hx hb dX7_flies_8 rfl (lv_at hl 2 rfl) ?_
  refine g_ki (g_runW (x := yX7_coos) (rest := []) (T := TX3) (ci := 3) (N := 0) (C := RX3) hx hb hml hown hE hT (c_X3_coos_4 l G  k0 a (gTb1 f 11) hd (t + 1) (gTb1_n ht) p v (by simp only [gTbs_1, gTb1_1]; exact hi) (by simp only [gTbs_2, gTb1_2]; exact hv) (by first | omega | (simp only [List.length_append, List.length_cons, List.length_nil]; omega)) x) gM_X3_coos gm_X7_17 gi_X3_coos gs_RX3_GoodNewsPigeons_Pigeon_coos_LGoodNewsPigeons_Act_I_I_yX3_coos gx_879 gi_X7_coos gc_X7_coos ⟨by decide, by decide, by decide +kernel⟩ rfl (hk7 4 _ rfl) ⟨hk7, h1⟩ rfl hl.1 ⟨rfl, rfl⟩ ⟨Nat.le_of_ble_eq_true rfl, Nat.le_of_ble_eq_true rfl⟩ ⟨Nat.zero_le _, Nat.zero_le _⟩ rfl (Nat.le_of_ble_eq_true rfl) dX7_flies_9) hS (by intro q hq; omega) (fun r8 H5 locs q6 k7 hS => ?_)
  obtain ⟨e9, hk7, h1⟩ := q6
  rw [e9]
  refine lv_aload_n hx hb dX7_flies_12 rfl (lv_at hl 1 rfl) ?_
  refine g_get (v := .int ((gTbs (gTb1 f 11) ([50, 10])) 1 2)) (T := TX0) (ci := 0) (N := 4) hx hb hown hK (gY_X0 hT) rfl (h1 0 _ rfl) 3 (by decide) (hT _ gf_X7_23) rfl dX7_flies_13 ?_
  rw [show (gTbs (gTb1 f 11) ([50, 10])) 1 2 = v from (by simp only [gTbs_2, gTb1_2]; exact hv)]
  refine lv_isub hx hb dX7_flies_16 ?_
  rw [← hQ]
  exact g_iret hx hb hr hlk hS dX7_flies_17 ⟨rfl, hk7, by rw [show gTbs f ([11] ++ (gCoo p v 4 x).2) = gTbs (gTb1 f 11) ([50, 10]) from by simp only [gTbs, List.foldl_append, List.foldl_cons, List.foldl_nil] <;> rfl]; exact h1⟩

set_option maxHeartbeats 4000000 in
set_option maxRecDepth 100000 in
theorem c_X7_flies_5 (l : Launch) (G : gW) (k0 a : Nat) (f : gPS) (hd : k0 + 7 ≤ a ∨ a + 2 ≤ k0) (t : Nat) (ht : f 1 0 = nI t) (p : Nat) (v : Int32) (hi : f 1 1 = nI p) (hv : f 1 2 = v) (htl : t ≤ 2000) (x : Int32) : gCI l yX7_flies cX7_flies 3 .int (gRm 3 65) G [.ref (k0 + 5), .ref a, .int x] (fun H => gSg G k0 (gKk G k0) H ∧ gSg G a (gLA G a f) H) (fun r H => r = (gCoo p v 5 x).1 - v ∧ gSg G k0 (gKk G k0) H ∧ gSg G a (gLA G a (gTbs f ([11] ++ (gCoo p v 5 x).2))) H) (fun q => a ≤ q ∧ q < a + 2) := by
  refine g_start (by decide) (Nat.le_of_ble_eq_true rfl) ?_
  intro pp_ ee_ s mm_ aa_ below meth cc_ ls Q hQ hX hE hP hl
  obtain ⟨hx, hb, hr, hml, hown, hT, hlk, hnm⟩ := hX
  have hK := hE.2.1
  obtain ⟨hk7, h1⟩ := hP
  have hS : va_S (fun q => a ≤ q ∧ q < a + 2) s.heap s.heap [] := va_S.rf
  have hl : lv_has ls 3 [(0, .ref (k0 + 5)), (1, .ref a), (2, .int x)] := hl
  have hn0 := gCoo_l p v 5 x
  refine lv_aload_n hx hb dX7_flies_0 rfl (lv_at hl 1 rfl) ?_
  refine lv_bipush (v := 11) hx hb dX7_flies_1 (by decide) ?_
  refine g_kv (g_runV (T := TX0) (ci := 0) (N := 4) (rest := []) hx hb hml hown hE hT (c_X0_begins l G a f t ht (by first | omega | (simp only [List.length_append, List.length_cons, List.length_nil]; omega)) 11) gM_X0_begins gm_X7_7 gi_X0_begins gs_RX0_yX0_begins_yX0_begins rfl (h1 0 _ rfl) h1 rfl hl.1 ⟨rfl, rfl⟩ ⟨Nat.le_of_ble_eq_true rfl, Nat.le_of_ble_eq_true rfl⟩ ⟨Nat.zero_le _, Nat.zero_le _⟩ rfl (Nat.le_of_ble_eq_true rfl) dX7_flies_3) hS (by intro q hq; omega) (fun H1 locs q2 k3 hS => ?_)
  have h1 := q2
  have hk7 := gSg_free hk7 k3 (by intro k hk q; simp only [List.length_cons, List.length_nil] at hk; omega)
  refine lv_aload_n hx hb dX7_flies_6 rfl (lv_at hl 0 rfl) ?_
  refine lv_aload_n hx hb dX7_flies_7 rfl (lv_at hl 1 rfl) ?_
  refine lv_iload_n hx hb dX7_flies_8 rfl (lv_at hl 2 rfl) ?_
  refine g_ki (g_runW (x := yX7_coos) (rest := []) (T := TX6) (ci := 6) (N := 0) (C := RX6) hx hb hml hown hE hT (c_X1_coos_5 l G  k0 a (gTb1 f 11) hd (t + 1) (gTb1_n ht) p v (by simp only [gTbs_1, gTb1_1]; exact hi) (by simp only [gTbs_2, gTb1_2]; exact hv) (by first | omega | (simp only [List.length_append, List.length_cons, List.length_nil]; omega)) x) gM_X1_coos gm_X7_17 gi_X1_coos gs_RX6_GoodNewsPigeons_Pigeon_coos_LGoodNewsPigeons_Act_I_I_yX1_coos gx_879 gi_X7_coos gc_X7_coos ⟨by decide, by decide, by decide +kernel⟩ rfl (hk7 5 _ rfl) ⟨hk7, h1⟩ rfl hl.1 ⟨rfl, rfl⟩ ⟨Nat.le_of_ble_eq_true rfl, Nat.le_of_ble_eq_true rfl⟩ ⟨Nat.zero_le _, Nat.zero_le _⟩ rfl (Nat.le_of_ble_eq_true rfl) dX7_flies_9) hS (by intro q hq; omega) (fun r8 H5 locs q6 k7 hS => ?_)
  obtain ⟨e9, hk7, h1⟩ := q6
  rw [e9]
  refine lv_aload_n hx hb dX7_flies_12 rfl (lv_at hl 1 rfl) ?_
  refine g_get (v := .int ((gTbs (gTb1 f 11) ([30, 10])) 1 2)) (T := TX0) (ci := 0) (N := 4) hx hb hown hK (gY_X0 hT) rfl (h1 0 _ rfl) 3 (by decide) (hT _ gf_X7_23) rfl dX7_flies_13 ?_
  rw [show (gTbs (gTb1 f 11) ([30, 10])) 1 2 = v from (by simp only [gTbs_2, gTb1_2]; exact hv)]
  refine lv_isub hx hb dX7_flies_16 ?_
  rw [← hQ]
  exact g_iret hx hb hr hlk hS dX7_flies_17 ⟨rfl, hk7, by rw [show gTbs f ([11] ++ (gCoo p v 5 x).2) = gTbs (gTb1 f 11) ([30, 10]) from by simp only [gTbs, List.foldl_append, List.foldl_cons, List.foldl_nil] <;> rfl]; exact h1⟩

set_option maxHeartbeats 4000000 in
set_option maxRecDepth 100000 in
theorem c_X7_flies_6 (l : Launch) (G : gW) (k0 a : Nat) (f : gPS) (hd : k0 + 7 ≤ a ∨ a + 2 ≤ k0) (t : Nat) (ht : f 1 0 = nI t) (p : Nat) (v : Int32) (hi : f 1 1 = nI p) (hv : f 1 2 = v) (htl : t ≤ 2000) (x : Int32) : gCI l yX7_flies cX7_flies 3 .int (gRm 3 65) G [.ref (k0 + 6), .ref a, .int x] (fun H => gSg G k0 (gKk G k0) H ∧ gSg G a (gLA G a f) H) (fun r H => r = (gCoo p v 6 x).1 - v ∧ gSg G k0 (gKk G k0) H ∧ gSg G a (gLA G a (gTbs f ([11] ++ (gCoo p v 6 x).2))) H) (fun q => a ≤ q ∧ q < a + 2) := by
  refine g_start (by decide) (Nat.le_of_ble_eq_true rfl) ?_
  intro pp_ ee_ s mm_ aa_ below meth cc_ ls Q hQ hX hE hP hl
  obtain ⟨hx, hb, hr, hml, hown, hT, hlk, hnm⟩ := hX
  have hK := hE.2.1
  obtain ⟨hk7, h1⟩ := hP
  have hS : va_S (fun q => a ≤ q ∧ q < a + 2) s.heap s.heap [] := va_S.rf
  have hl : lv_has ls 3 [(0, .ref (k0 + 6)), (1, .ref a), (2, .int x)] := hl
  have hn0 := gCoo_l p v 6 x
  refine lv_aload_n hx hb dX7_flies_0 rfl (lv_at hl 1 rfl) ?_
  refine lv_bipush (v := 11) hx hb dX7_flies_1 (by decide) ?_
  refine g_kv (g_runV (T := TX0) (ci := 0) (N := 4) (rest := []) hx hb hml hown hE hT (c_X0_begins l G a f t ht (by first | omega | (simp only [List.length_append, List.length_cons, List.length_nil]; omega)) 11) gM_X0_begins gm_X7_7 gi_X0_begins gs_RX0_yX0_begins_yX0_begins rfl (h1 0 _ rfl) h1 rfl hl.1 ⟨rfl, rfl⟩ ⟨Nat.le_of_ble_eq_true rfl, Nat.le_of_ble_eq_true rfl⟩ ⟨Nat.zero_le _, Nat.zero_le _⟩ rfl (Nat.le_of_ble_eq_true rfl) dX7_flies_3) hS (by intro q hq; omega) (fun H1 locs q2 k3 hS => ?_)
  have h1 := q2
  have hk7 := gSg_free hk7 k3 (by intro k hk q; simp only [List.length_cons, List.length_nil] at hk; omega)
  refine lv_aload_n hx hb dX7_flies_6 rfl (lv_at hl 0 rfl) ?_
  refine lv_aload_n hx hb dX7_flies_7 rfl (lv_at hl 1 rfl) ?_
  refine lv_iload_n hx hb dX7_flies_8 rfl (lv_at hl 2 rfl) ?_
  refine g_ki (g_runW (x := yX7_coos) (rest := []) (T := TX10) (ci := 10) (N := 0) (C := RX10) hx hb hml hown hE hT (c_X10_coos_6 l G  k0 a (gTb1 f 11) hd (t + 1) (gTb1_n ht) p v (by simp only [gTbs_1, gTb1_1]; exact hi) (by simp only [gTbs_2, gTb1_2]; exact hv) (by first | omega | (simp only [List.length_append, List.length_cons, List.length_nil]; omega)) x) gM_X10_coos gm_X7_17 gi_X10_coos gs_RX10_GoodNewsPigeons_Pigeon_coos_LGoodNewsPigeons_Act_I_I_yX10_coos gx_879 gi_X7_coos gc_X7_coos ⟨by decide, by decide, by decide +kernel⟩ rfl (hk7 6 _ rfl) ⟨hk7, h1⟩ rfl hl.1 ⟨rfl, rfl⟩ ⟨Nat.le_of_ble_eq_true rfl, Nat.le_of_ble_eq_true rfl⟩ ⟨Nat.zero_le _, Nat.zero_le _⟩ rfl (Nat.le_of_ble_eq_true rfl) dX7_flies_9) hS (by intro q hq; omega) (fun r8 H5 locs q6 k7 hS => ?_)
  obtain ⟨e9, hk7, h1⟩ := q6
  rw [e9]
  refine lv_aload_n hx hb dX7_flies_12 rfl (lv_at hl 1 rfl) ?_
  refine g_get (v := .int ((gTbs (gTb1 f 11) ([71, 10])) 1 2)) (T := TX0) (ci := 0) (N := 4) hx hb hown hK (gY_X0 hT) rfl (h1 0 _ rfl) 3 (by decide) (hT _ gf_X7_23) rfl dX7_flies_13 ?_
  rw [show (gTbs (gTb1 f 11) ([71, 10])) 1 2 = v from (by simp only [gTbs_2, gTb1_2]; exact hv)]
  refine lv_isub hx hb dX7_flies_16 ?_
  rw [← hQ]
  exact g_iret hx hb hr hlk hS dX7_flies_17 ⟨rfl, hk7, by rw [show gTbs f ([11] ++ (gCoo p v 6 x).2) = gTbs (gTb1 f 11) ([71, 10]) from by simp only [gTbs, List.foldl_append, List.foldl_cons, List.foldl_nil] <;> rfl]; exact h1⟩

set_option maxHeartbeats 4000000 in
set_option maxRecDepth 100000 in
theorem c_X2_flies_1 (l : Launch) (G : gW) (k0 a : Nat) (f : gPS) (hd : k0 + 7 ≤ a ∨ a + 2 ≤ k0) (t : Nat) (ht : f 1 0 = nI t) (p : Nat) (v : Int32) (hi : f 1 1 = nI p) (hv : f 1 2 = v) (htl : t ≤ 1990) (x : Int32) : gCI l yX2_flies cX2_flies 3 .int (gRm 3 65) G [.ref (k0 + 1), .ref a, .int x] (fun H => gSg G k0 (gKk G k0) H ∧ gSg G a (gLA G a f) H) (fun r H => r = ((gCoo p v 1 x).1 - v) ^^^ 6 ∧ gSg G k0 (gKk G k0) H ∧ gSg G a (gLA G a (gTbs f ([20, 11] ++ (gCoo p v 1 x).2))) H) (fun q => a ≤ q ∧ q < a + 2) := by
  refine g_start (by decide) (Nat.le_of_ble_eq_true rfl) ?_
  intro pp_ ee_ s mm_ aa_ below meth cc_ ls Q hQ hX hE hP hl
  obtain ⟨hx, hb, hr, hml, hown, hT, hlk, hnm⟩ := hX
  have hK := hE.2.1
  obtain ⟨hk7, h1⟩ := hP
  have hS : va_S (fun q => a ≤ q ∧ q < a + 2) s.heap s.heap [] := va_S.rf
  have hl : lv_has ls 3 [(0, .ref (k0 + 1)), (1, .ref a), (2, .int x)] := hl
  refine lv_aload_n hx hb dX2_flies_0 rfl (lv_at hl 1 rfl) ?_
  refine lv_bipush (v := 20) hx hb dX2_flies_1 (by decide) ?_
  refine g_kv (g_runV (T := TX0) (ci := 0) (N := 4) (rest := []) hx hb hml hown hE hT (c_X0_begins l G a f t ht (by first | omega | (simp only [List.length_append, List.length_cons, List.length_nil]; omega)) 20) gM_X0_begins gm_X2_13 gi_X0_begins gs_RX0_yX0_begins_yX0_begins rfl (h1 0 _ rfl) h1 rfl hl.1 ⟨rfl, rfl⟩ ⟨Nat.le_of_ble_eq_true rfl, Nat.le_of_ble_eq_true rfl⟩ ⟨Nat.zero_le _, Nat.zero_le _⟩ rfl (Nat.le_of_ble_eq_true rfl) dX2_flies_3) hS (by intro q hq; omega) (fun H1 locs q2 k3 hS => ?_)
  have h1 := q2
  have hk7 := gSg_free hk7 k3 (by intro k hk q; simp only [List.length_cons, List.length_nil] at hk; omega)
  refine lv_aload_n hx hb dX2_flies_6 rfl (lv_at hl 0 rfl) ?_
  refine lv_aload_n hx hb dX2_flies_7 rfl (lv_at hl 1 rfl) ?_
  refine lv_iload_n hx hb dX2_flies_8 rfl (lv_at hl 2 rfl) ?_
  have hn9 := gCoo_l p v 1 x
  refine g_ki (g_runP (rest := []) (T := TX2) (ci := 2) (N := 0) (C := RX2) hx hb hml hown hE hT (c_X7_flies_1 l G  k0 a (gTb1 f 20) hd (t + 1) (gTb1_n ht) p v (by simp only [gTbs_1, gTb1_1]; exact hi) (by simp only [gTbs_2, gTb1_2]; exact hv) (by first | omega | (simp only [List.length_append, List.length_cons, List.length_nil]; omega)) x) gM_X7_flies gm_X2_19 gi_X7_flies gx_909 gx_922 rfl (Or.inl rfl) (by decide) rfl (hk7 1 _ rfl) ⟨hk7, h1⟩ rfl hl.1 ⟨rfl, rfl⟩ ⟨Nat.le_of_ble_eq_true rfl, Nat.le_of_ble_eq_true rfl⟩ ⟨Nat.zero_le _, Nat.zero_le _⟩ rfl (Nat.le_of_ble_eq_true rfl) dX2_flies_9) hS (by intro q hq; omega) (fun r8 H5 locs q6 k7 hS => ?_)
  obtain ⟨e9, hk7, h1⟩ := q6
  rw [e9]
  refine lv_bipush (v := 6) hx hb dX2_flies_12 (by decide) ?_
  refine lv_ixor hx hb dX2_flies_14 ?_
  rw [← hQ]
  exact g_iret hx hb hr hlk hS dX2_flies_15 ⟨rfl, hk7, by rw [show gTbs f ([20, 11] ++ (gCoo p v 1 x).2) = gTbs (gTb1 f 20) ([11] ++ (gCoo p v 1 x).2) from by simp only [gTbs, List.foldl_append, List.foldl_cons, List.foldl_nil] <;> rfl]; exact h1⟩

set_option maxHeartbeats 4000000 in
set_option maxRecDepth 100000 in
theorem c_X2_flies_4 (l : Launch) (G : gW) (k0 a : Nat) (f : gPS) (hd : k0 + 7 ≤ a ∨ a + 2 ≤ k0) (t : Nat) (ht : f 1 0 = nI t) (p : Nat) (v : Int32) (hi : f 1 1 = nI p) (hv : f 1 2 = v) (htl : t ≤ 1990) (x : Int32) : gCI l yX2_flies cX2_flies 3 .int (gRm 4 87) G [.ref (k0 + 4), .ref a, .int x] (fun H => gSg G k0 (gKk G k0) H ∧ gSg G a (gLA G a f) H) (fun r H => r = ((gCoo p v 4 x).1 - v) ^^^ 6 ∧ gSg G k0 (gKk G k0) H ∧ gSg G a (gLA G a (gTbs f ([20, 11] ++ (gCoo p v 4 x).2))) H) (fun q => a ≤ q ∧ q < a + 2) := by
  refine g_start (by decide) (Nat.le_of_ble_eq_true rfl) ?_
  intro pp_ ee_ s mm_ aa_ below meth cc_ ls Q hQ hX hE hP hl
  obtain ⟨hx, hb, hr, hml, hown, hT, hlk, hnm⟩ := hX
  have hK := hE.2.1
  obtain ⟨hk7, h1⟩ := hP
  have hS : va_S (fun q => a ≤ q ∧ q < a + 2) s.heap s.heap [] := va_S.rf
  have hl : lv_has ls 3 [(0, .ref (k0 + 4)), (1, .ref a), (2, .int x)] := hl
  refine lv_aload_n hx hb dX2_flies_0 rfl (lv_at hl 1 rfl) ?_
  refine lv_bipush (v := 20) hx hb dX2_flies_1 (by decide) ?_
  refine g_kv (g_runV (T := TX0) (ci := 0) (N := 4) (rest := []) hx hb hml hown hE hT (c_X0_begins l G a f t ht (by first | omega | (simp only [List.length_append, List.length_cons, List.length_nil]; omega)) 20) gM_X0_begins gm_X2_13 gi_X0_begins gs_RX0_yX0_begins_yX0_begins rfl (h1 0 _ rfl) h1 rfl hl.1 ⟨rfl, rfl⟩ ⟨Nat.le_of_ble_eq_true rfl, Nat.le_of_ble_eq_true rfl⟩ ⟨Nat.zero_le _, Nat.zero_le _⟩ rfl (Nat.le_of_ble_eq_true rfl) dX2_flies_3) hS (by intro q hq; omega) (fun H1 locs q2 k3 hS => ?_)
  have h1 := q2
  have hk7 := gSg_free hk7 k3 (by intro k hk q; simp only [List.length_cons, List.length_nil] at hk; omega)
  refine lv_aload_n hx hb dX2_flies_6 rfl (lv_at hl 0 rfl) ?_
  refine lv_aload_n hx hb dX2_flies_7 rfl (lv_at hl 1 rfl) ?_
  refine lv_iload_n hx hb dX2_flies_8 rfl (lv_at hl 2 rfl) ?_
  have hn9 := gCoo_l p v 4 x
  refine g_ki (g_runP (rest := []) (T := TX3) (ci := 3) (N := 0) (C := RX3) hx hb hml hown hE hT (c_X7_flies_4 l G  k0 a (gTb1 f 20) hd (t + 1) (gTb1_n ht) p v (by simp only [gTbs_1, gTb1_1]; exact hi) (by simp only [gTbs_2, gTb1_2]; exact hv) (by first | omega | (simp only [List.length_append, List.length_cons, List.length_nil]; omega)) x) gM_X7_flies gm_X2_19 gi_X7_flies gx_909 gx_922 rfl (Or.inl rfl) (by decide) rfl (hk7 4 _ rfl) ⟨hk7, h1⟩ rfl hl.1 ⟨rfl, rfl⟩ ⟨Nat.le_of_ble_eq_true rfl, Nat.le_of_ble_eq_true rfl⟩ ⟨Nat.zero_le _, Nat.zero_le _⟩ rfl (Nat.le_of_ble_eq_true rfl) dX2_flies_9) hS (by intro q hq; omega) (fun r8 H5 locs q6 k7 hS => ?_)
  obtain ⟨e9, hk7, h1⟩ := q6
  rw [e9]
  refine lv_bipush (v := 6) hx hb dX2_flies_12 (by decide) ?_
  refine lv_ixor hx hb dX2_flies_14 ?_
  rw [← hQ]
  exact g_iret hx hb hr hlk hS dX2_flies_15 ⟨rfl, hk7, by rw [show gTbs f ([20, 11] ++ (gCoo p v 4 x).2) = gTbs (gTb1 f 20) ([11] ++ (gCoo p v 4 x).2) from by simp only [gTbs, List.foldl_append, List.foldl_cons, List.foldl_nil] <;> rfl]; exact h1⟩

set_option maxHeartbeats 4000000 in
set_option maxRecDepth 100000 in
theorem c_X3_flies_4 (l : Launch) (G : gW) (k0 a : Nat) (f : gPS) (hd : k0 + 7 ≤ a ∨ a + 2 ≤ k0) (t : Nat) (ht : f 1 0 = nI t) (p : Nat) (v : Int32) (hi : f 1 1 = nI p) (hv : f 1 2 = v) (htl : t ≤ 1980) (x : Int32) : gCI l yX3_flies cX3_flies 3 .int (gRm 5 109) G [.ref (k0 + 4), .ref a, .int x] (fun H => gSg G k0 (gKk G k0) H ∧ gSg G a (gLA G a f) H) (fun r H => r = ((gCoo p v 4 (x + 1)).1 - v) ^^^ 6 ∧ gSg G k0 (gKk G k0) H ∧ gSg G a (gLA G a (gTbs f ([51, 20, 11] ++ (gCoo p v 4 (x + 1)).2))) H) (fun q => a ≤ q ∧ q < a + 2) := by
  refine g_start (by decide) (Nat.le_of_ble_eq_true rfl) ?_
  intro pp_ ee_ s mm_ aa_ below meth cc_ ls Q hQ hX hE hP hl
  obtain ⟨hx, hb, hr, hml, hown, hT, hlk, hnm⟩ := hX
  have hK := hE.2.1
  obtain ⟨hk7, h1⟩ := hP
  have hS : va_S (fun q => a ≤ q ∧ q < a + 2) s.heap s.heap [] := va_S.rf
  have hl : lv_has ls 3 [(0, .ref (k0 + 4)), (1, .ref a), (2, .int x)] := hl
  refine lv_aload_n hx hb dX3_flies_0 rfl (lv_at hl 1 rfl) ?_
  refine lv_bipush (v := 51) hx hb dX3_flies_1 (by decide) ?_
  refine g_kv (g_runV (T := TX0) (ci := 0) (N := 4) (rest := []) hx hb hml hown hE hT (c_X0_begins l G a f t ht (by first | omega | (simp only [List.length_append, List.length_cons, List.length_nil]; omega)) 51) gM_X0_begins gm_X3_17 gi_X0_begins gs_RX0_yX0_begins_yX0_begins rfl (h1 0 _ rfl) h1 rfl hl.1 ⟨rfl, rfl⟩ ⟨Nat.le_of_ble_eq_true rfl, Nat.le_of_ble_eq_true rfl⟩ ⟨Nat.zero_le _, Nat.zero_le _⟩ rfl (Nat.le_of_ble_eq_true rfl) dX3_flies_3) hS (by intro q hq; omega) (fun H1 locs q2 k3 hS => ?_)
  have h1 := q2
  have hk7 := gSg_free hk7 k3 (by intro k hk q; simp only [List.length_cons, List.length_nil] at hk; omega)
  refine lv_aload_n hx hb dX3_flies_6 rfl (lv_at hl 0 rfl) ?_
  refine lv_aload_n hx hb dX3_flies_7 rfl (lv_at hl 1 rfl) ?_
  refine lv_iload_n hx hb dX3_flies_8 rfl (lv_at hl 2 rfl) ?_
  refine lv_iconst (v := 1) hx hb dX3_flies_9 (by decide) ?_
  refine lv_iadd hx hb dX3_flies_10 ?_
  have hn11 := gCoo_l p v 4 (x + 1)
  refine g_ki (g_runP (rest := []) (T := TX3) (ci := 3) (N := 0) (C := RX3) hx hb hml hown hE hT (c_X2_flies_4 l G  k0 a (gTb1 f 51) hd (t + 1) (gTb1_n ht) p v (by simp only [gTbs_1, gTb1_1]; exact hi) (by simp only [gTbs_2, gTb1_2]; exact hv) (by first | omega | (simp only [List.length_append, List.length_cons, List.length_nil]; omega)) (x + 1)) gM_X2_flies gm_X3_27 gi_X2_flies gx_927 gx_247 rfl (Or.inl rfl) (by decide) rfl (hk7 4 _ rfl) ⟨hk7, h1⟩ rfl hl.1 ⟨rfl, rfl⟩ ⟨Nat.le_of_ble_eq_true rfl, Nat.le_of_ble_eq_true rfl⟩ ⟨Nat.zero_le _, Nat.zero_le _⟩ rfl (Nat.le_of_ble_eq_true rfl) dX3_flies_11) hS (by intro q hq; omega) (fun r8 H5 locs q6 k7 hS => ?_)
  obtain ⟨e9, hk7, h1⟩ := q6
  rw [e9]
  rw [← hQ]
  exact g_iret hx hb hr hlk hS dX3_flies_14 ⟨rfl, hk7, by rw [show gTbs f ([51, 20, 11] ++ (gCoo p v 4 (x + 1)).2) = gTbs (gTb1 f 51) ([20, 11] ++ (gCoo p v 4 (x + 1)).2) from by simp only [gTbs, List.foldl_append, List.foldl_cons, List.foldl_nil] <;> rfl]; exact h1⟩

set_option maxHeartbeats 4000000 in
set_option maxRecDepth 100000 in
theorem c_X10_flies_6 (l : Launch) (G : gW) (k0 a : Nat) (f : gPS) (hd : k0 + 7 ≤ a ∨ a + 2 ≤ k0) (t : Nat) (ht : f 1 0 = nI t) (p : Nat) (v : Int32) (hi : f 1 1 = nI p) (hv : f 1 2 = v) (htl : t ≤ 1990) (x : Int32) : gCI l yX10_flies cX10_flies 3 .int (gRm 4 87) G [.ref (k0 + 6), .ref a, .int x] (fun H => gSg G k0 (gKk G k0) H ∧ gSg G a (gLA G a f) H) (fun r H => r = (gCoo p v 6 x).1 - v + (2 + nI p) ∧ gSg G k0 (gKk G k0) H ∧ gSg G a (gLA G a (gTbs f ([70, 11] ++ (gCoo p v 6 x).2 ++ [10]))) H) (fun q => a ≤ q ∧ q < a + 2) := by
  refine g_start (by decide) (Nat.le_of_ble_eq_true rfl) ?_
  intro pp_ ee_ s mm_ aa_ below meth cc_ ls Q hQ hX hE hP hl
  obtain ⟨hx, hb, hr, hml, hown, hT, hlk, hnm⟩ := hX
  have hK := hE.2.1
  obtain ⟨hk7, h1⟩ := hP
  have hS : va_S (fun q => a ≤ q ∧ q < a + 2) s.heap s.heap [] := va_S.rf
  have hl : lv_has ls 3 [(0, .ref (k0 + 6)), (1, .ref a), (2, .int x)] := hl
  refine lv_aload_n hx hb dX10_flies_0 rfl (lv_at hl 1 rfl) ?_
  refine lv_bipush (v := 70) hx hb dX10_flies_1 (by decide) ?_
  refine g_kv (g_runV (T := TX0) (ci := 0) (N := 4) (rest := []) hx hb hml hown hE hT (c_X0_begins l G a f t ht (by first | omega | (simp only [List.length_append, List.length_cons, List.length_nil]; omega)) 70) gM_X0_begins gm_X10_25 gi_X0_begins gs_RX0_yX0_begins_yX0_begins rfl (h1 0 _ rfl) h1 rfl hl.1 ⟨rfl, rfl⟩ ⟨Nat.le_of_ble_eq_true rfl, Nat.le_of_ble_eq_true rfl⟩ ⟨Nat.zero_le _, Nat.zero_le _⟩ rfl (Nat.le_of_ble_eq_true rfl) dX10_flies_3) hS (by intro q hq; omega) (fun H1 locs q2 k3 hS => ?_)
  have h1 := q2
  have hk7 := gSg_free hk7 k3 (by intro k hk q; simp only [List.length_cons, List.length_nil] at hk; omega)
  refine lv_aload_n hx hb dX10_flies_6 rfl (lv_at hl 0 rfl) ?_
  refine lv_aload_n hx hb dX10_flies_7 rfl (lv_at hl 1 rfl) ?_
  refine lv_iload_n hx hb dX10_flies_8 rfl (lv_at hl 2 rfl) ?_
  have hn9 := gCoo_l p v 6 x
  refine g_ki (g_runP (rest := []) (T := TX10) (ci := 10) (N := 0) (C := RX10) hx hb hml hown hE hT (c_X7_flies_6 l G  k0 a (gTb1 f 70) hd (t + 1) (gTb1_n ht) p v (by simp only [gTbs_1, gTb1_1]; exact hi) (by simp only [gTbs_2, gTb1_2]; exact hv) (by first | omega | (simp only [List.length_append, List.length_cons, List.length_nil]; omega)) x) gM_X7_flies gm_X10_31 gi_X7_flies gx_952 gx_270 rfl (Or.inr gx_950) (by decide) rfl (hk7 6 _ rfl) ⟨hk7, h1⟩ rfl hl.1 ⟨rfl, rfl⟩ ⟨Nat.le_of_ble_eq_true rfl, Nat.le_of_ble_eq_true rfl⟩ ⟨Nat.zero_le _, Nat.zero_le _⟩ rfl (Nat.le_of_ble_eq_true rfl) dX10_flies_9) hS (by intro q hq; omega) (fun r8 H5 locs q6 k7 hS => ?_)
  obtain ⟨e9, hk7, h1⟩ := q6
  rw [e9]
  refine lv_aload_n hx hb dX10_flies_12 rfl (lv_at hl 0 rfl) ?_
  refine lv_aload_n hx hb dX10_flies_13 rfl (lv_at hl 1 rfl) ?_
  refine lv_iconst (v := 2) hx hb dX10_flies_14 (by decide) ?_
  refine g_ki (g_runP (rest := [.int ((gCoo p v 6 x).1 - v)]) (T := TX10) (ci := 10) (N := 0) (C := RX10) hx hb hml hown hE hT (c_X7_coos l G (k0 + 6) k0 a (gTbs (gTb1 f 70) ([11] ++ (gCoo p v 6 x).2)) hd (t + 1 + ([11] ++ (gCoo p v 6 x).2).length) (gTbs_n _ (gTb1_n ht)) p v (by simp only [gTbs_1, gTb1_1]; exact hi) (by simp only [gTbs_2, gTb1_2]; exact hv) (by first | omega | (simp only [List.length_append, List.length_cons, List.length_nil]; omega)) 2) gM_X7_coos gm_X10_35 gi_X7_coos gx_s4 gx_270 rfl (Or.inr gx_950) (by decide) rfl (hk7 6 _ rfl) h1 rfl hl.1 ⟨rfl, rfl⟩ ⟨Nat.le_of_ble_eq_true rfl, Nat.le_of_ble_eq_true rfl⟩ ⟨Nat.zero_le _, Nat.zero_le _⟩ rfl (Nat.le_of_ble_eq_true rfl) dX10_flies_15) hS (by intro q hq; omega) (fun r12 H9 locs q10 k11 hS => ?_)
  obtain ⟨e9, h1⟩ := q10
  rw [e9]
  have hk7 := gSg_free hk7 k11 (by intro k hk q; simp only [List.length_cons, List.length_nil] at hk; omega)
  refine lv_iadd hx hb dX10_flies_18 ?_
  rw [← hQ]
  exact g_iret hx hb hr hlk hS dX10_flies_19 ⟨rfl, hk7, by rw [show gTbs f ([70, 11] ++ (gCoo p v 6 x).2 ++ [10]) = gTbs (gTbs (gTb1 f 70) ([11] ++ (gCoo p v 6 x).2)) ([10]) from by simp only [gTbs, List.foldl_append, List.foldl_cons, List.foldl_nil] <;> rfl]; exact h1⟩

set_option maxHeartbeats 4000000 in
set_option maxRecDepth 100000 in
theorem c_X7_tells_0 (l : Launch) (G : gW) (k0 a : Nat) (f : gPS) (hd : k0 + 7 ≤ a ∨ a + 2 ≤ k0) (t : Nat) (ht : f 1 0 = nI t) (p : Nat) (v : Int32) (hi : f 1 1 = nI p) (hv : f 1 2 = v) (htl : t ≤ 1000) (x : Int32) : gCI l yX7_tells cX7_tells 3 .int (gRm 3 65) G [.ref (k0 + 0), .ref a, .int x] (fun H => gSg G k0 (gKk G k0) H ∧ gSg G a (gLA G a f) H) (fun r H => r = (gFli p v 0 0 x).1 * 2 ∧ gSg G k0 (gKk G k0) H ∧ gSg G a (gLA G a (gTbs f ([12] ++ (gFli p v 0 0 x).2))) H) (fun q => a ≤ q ∧ q < a + 2) := by
  refine g_start (by decide) (Nat.le_of_ble_eq_true rfl) ?_
  intro pp_ ee_ s mm_ aa_ below meth cc_ ls Q hQ hX hE hP hl
  obtain ⟨hx, hb, hr, hml, hown, hT, hlk, hnm⟩ := hX
  have hK := hE.2.1
  obtain ⟨hk7, h1⟩ := hP
  have hS : va_S (fun q => a ≤ q ∧ q < a + 2) s.heap s.heap [] := va_S.rf
  have hl : lv_has ls 3 [(0, .ref (k0 + 0)), (1, .ref a), (2, .int x)] := hl
  refine lv_aload_n hx hb dX7_tells_0 rfl (lv_at hl 1 rfl) ?_
  refine lv_bipush (v := 12) hx hb dX7_tells_1 (by decide) ?_
  refine g_kv (g_runV (T := TX0) (ci := 0) (N := 4) (rest := []) hx hb hml hown hE hT (c_X0_begins l G a f t ht (by first | omega | (simp only [List.length_append, List.length_cons, List.length_nil]; omega)) 12) gM_X0_begins gm_X7_7 gi_X0_begins gs_RX0_yX0_begins_yX0_begins rfl (h1 0 _ rfl) h1 rfl hl.1 ⟨rfl, rfl⟩ ⟨Nat.le_of_ble_eq_true rfl, Nat.le_of_ble_eq_true rfl⟩ ⟨Nat.zero_le _, Nat.zero_le _⟩ rfl (Nat.le_of_ble_eq_true rfl) dX7_tells_3) hS (by intro q hq; omega) (fun H1 locs q2 k3 hS => ?_)
  have h1 := q2
  have hk7 := gSg_free hk7 k3 (by intro k hk q; simp only [List.length_cons, List.length_nil] at hk; omega)
  refine lv_aload_n hx hb dX7_tells_6 rfl (lv_at hl 0 rfl) ?_
  refine lv_aload_n hx hb dX7_tells_7 rfl (lv_at hl 1 rfl) ?_
  refine lv_iload_n hx hb dX7_tells_8 rfl (lv_at hl 2 rfl) ?_
  have hn9 := gFli_l p v 0 0 x
  refine g_ki (g_runW (x := yX7_flies) (rest := []) (T := TX7) (ci := 7) (N := 0) (C := RX7) hx hb hml hown hE hT (c_X7_flies_0 l G  k0 a (gTb1 f 12) hd (t + 1) (gTb1_n ht) p v (by simp only [gTbs_1, gTb1_1]; exact hi) (by simp only [gTbs_2, gTb1_2]; exact hv) (by first | omega | (simp only [List.length_append, List.length_cons, List.length_nil]; omega)) x) gM_X7_flies gm_X7_26 gi_X7_flies gs_RX7_yX7_flies_yX7_flies gx_909 gi_X7_flies gc_X7_flies ⟨by decide, by decide, by decide +kernel⟩ rfl (hk7 0 _ rfl) ⟨hk7, h1⟩ rfl hl.1 ⟨rfl, rfl⟩ ⟨Nat.le_of_ble_eq_true rfl, Nat.le_of_ble_eq_true rfl⟩ ⟨Nat.zero_le _, Nat.zero_le _⟩ rfl (Nat.le_of_ble_eq_true rfl) dX7_tells_9) hS (by intro q hq; omega) (fun r8 H5 locs q6 k7 hS => ?_)
  obtain ⟨e9, hk7, h1⟩ := q6
  rw [e9]
  refine lv_iconst (v := 2) hx hb dX7_tells_12 (by decide) ?_
  refine lv_imul hx hb dX7_tells_13 ?_
  rw [← hQ]
  exact g_iret hx hb hr hlk hS dX7_tells_14 ⟨rfl, hk7, by rw [show gTbs f ([12] ++ (gFli p v 0 0 x).2) = gTbs (gTb1 f 12) ((gFli p v 0 0 x).2) from by simp only [gTbs, List.foldl_append, List.foldl_cons, List.foldl_nil] <;> rfl]; exact h1⟩

set_option maxHeartbeats 4000000 in
set_option maxRecDepth 100000 in
theorem c_X7_tells_1 (l : Launch) (G : gW) (k0 a : Nat) (f : gPS) (hd : k0 + 7 ≤ a ∨ a + 2 ≤ k0) (t : Nat) (ht : f 1 0 = nI t) (p : Nat) (v : Int32) (hi : f 1 1 = nI p) (hv : f 1 2 = v) (htl : t ≤ 1000) (x : Int32) : gCI l yX7_tells cX7_tells 3 .int (gRm 4 87) G [.ref (k0 + 1), .ref a, .int x] (fun H => gSg G k0 (gKk G k0) H ∧ gSg G a (gLA G a f) H) (fun r H => r = (gFli p v 1 1 x).1 * 2 ∧ gSg G k0 (gKk G k0) H ∧ gSg G a (gLA G a (gTbs f ([12] ++ (gFli p v 1 1 x).2))) H) (fun q => a ≤ q ∧ q < a + 2) := by
  refine g_start (by decide) (Nat.le_of_ble_eq_true rfl) ?_
  intro pp_ ee_ s mm_ aa_ below meth cc_ ls Q hQ hX hE hP hl
  obtain ⟨hx, hb, hr, hml, hown, hT, hlk, hnm⟩ := hX
  have hK := hE.2.1
  obtain ⟨hk7, h1⟩ := hP
  have hS : va_S (fun q => a ≤ q ∧ q < a + 2) s.heap s.heap [] := va_S.rf
  have hl : lv_has ls 3 [(0, .ref (k0 + 1)), (1, .ref a), (2, .int x)] := hl
  refine lv_aload_n hx hb dX7_tells_0 rfl (lv_at hl 1 rfl) ?_
  refine lv_bipush (v := 12) hx hb dX7_tells_1 (by decide) ?_
  refine g_kv (g_runV (T := TX0) (ci := 0) (N := 4) (rest := []) hx hb hml hown hE hT (c_X0_begins l G a f t ht (by first | omega | (simp only [List.length_append, List.length_cons, List.length_nil]; omega)) 12) gM_X0_begins gm_X7_7 gi_X0_begins gs_RX0_yX0_begins_yX0_begins rfl (h1 0 _ rfl) h1 rfl hl.1 ⟨rfl, rfl⟩ ⟨Nat.le_of_ble_eq_true rfl, Nat.le_of_ble_eq_true rfl⟩ ⟨Nat.zero_le _, Nat.zero_le _⟩ rfl (Nat.le_of_ble_eq_true rfl) dX7_tells_3) hS (by intro q hq; omega) (fun H1 locs q2 k3 hS => ?_)
  have h1 := q2
  have hk7 := gSg_free hk7 k3 (by intro k hk q; simp only [List.length_cons, List.length_nil] at hk; omega)
  refine lv_aload_n hx hb dX7_tells_6 rfl (lv_at hl 0 rfl) ?_
  refine lv_aload_n hx hb dX7_tells_7 rfl (lv_at hl 1 rfl) ?_
  refine lv_iload_n hx hb dX7_tells_8 rfl (lv_at hl 2 rfl) ?_
  have hn9 := gFli_l p v 1 1 x
  refine g_ki (g_runW (x := yX7_flies) (rest := []) (T := TX2) (ci := 2) (N := 0) (C := RX2) hx hb hml hown hE hT (c_X2_flies_1 l G  k0 a (gTb1 f 12) hd (t + 1) (gTb1_n ht) p v (by simp only [gTbs_1, gTb1_1]; exact hi) (by simp only [gTbs_2, gTb1_2]; exact hv) (by first | omega | (simp only [List.length_append, List.length_cons, List.length_nil]; omega)) x) gM_X2_flies gm_X7_26 gi_X2_flies gs_RX2_GoodNewsPigeons_Pigeon_flies_LGoodNewsPigeons_Act_I_I_yX2_flies gx_909 gi_X7_flies gc_X7_flies ⟨by decide, by decide, by decide +kernel⟩ rfl (hk7 1 _ rfl) ⟨hk7, h1⟩ rfl hl.1 ⟨rfl, rfl⟩ ⟨Nat.le_of_ble_eq_true rfl, Nat.le_of_ble_eq_true rfl⟩ ⟨Nat.zero_le _, Nat.zero_le _⟩ rfl (Nat.le_of_ble_eq_true rfl) dX7_tells_9) hS (by intro q hq; omega) (fun r8 H5 locs q6 k7 hS => ?_)
  obtain ⟨e9, hk7, h1⟩ := q6
  rw [e9]
  refine lv_iconst (v := 2) hx hb dX7_tells_12 (by decide) ?_
  refine lv_imul hx hb dX7_tells_13 ?_
  rw [← hQ]
  exact g_iret hx hb hr hlk hS dX7_tells_14 ⟨rfl, hk7, by rw [show gTbs f ([12] ++ (gFli p v 1 1 x).2) = gTbs (gTb1 f 12) ((gFli p v 1 1 x).2) from by simp only [gTbs, List.foldl_append, List.foldl_cons, List.foldl_nil] <;> rfl]; exact h1⟩

set_option maxHeartbeats 4000000 in
set_option maxRecDepth 100000 in
theorem c_X7_tells_2 (l : Launch) (G : gW) (k0 a : Nat) (f : gPS) (hd : k0 + 7 ≤ a ∨ a + 2 ≤ k0) (t : Nat) (ht : f 1 0 = nI t) (p : Nat) (v : Int32) (hi : f 1 1 = nI p) (hv : f 1 2 = v) (htl : t ≤ 1000) (x : Int32) : gCI l yX7_tells cX7_tells 3 .int (gRm 4 87) G [.ref (k0 + 2), .ref a, .int x] (fun H => gSg G k0 (gKk G k0) H ∧ gSg G a (gLA G a f) H) (fun r H => r = (gFli p v 2 2 x).1 * 2 ∧ gSg G k0 (gKk G k0) H ∧ gSg G a (gLA G a (gTbs f ([12] ++ (gFli p v 2 2 x).2))) H) (fun q => a ≤ q ∧ q < a + 2) := by
  refine g_start (by decide) (Nat.le_of_ble_eq_true rfl) ?_
  intro pp_ ee_ s mm_ aa_ below meth cc_ ls Q hQ hX hE hP hl
  obtain ⟨hx, hb, hr, hml, hown, hT, hlk, hnm⟩ := hX
  have hK := hE.2.1
  obtain ⟨hk7, h1⟩ := hP
  have hS : va_S (fun q => a ≤ q ∧ q < a + 2) s.heap s.heap [] := va_S.rf
  have hl : lv_has ls 3 [(0, .ref (k0 + 2)), (1, .ref a), (2, .int x)] := hl
  refine lv_aload_n hx hb dX7_tells_0 rfl (lv_at hl 1 rfl) ?_
  refine lv_bipush (v := 12) hx hb dX7_tells_1 (by decide) ?_
  refine g_kv (g_runV (T := TX0) (ci := 0) (N := 4) (rest := []) hx hb hml hown hE hT (c_X0_begins l G a f t ht (by first | omega | (simp only [List.length_append, List.length_cons, List.length_nil]; omega)) 12) gM_X0_begins gm_X7_7 gi_X0_begins gs_RX0_yX0_begins_yX0_begins rfl (h1 0 _ rfl) h1 rfl hl.1 ⟨rfl, rfl⟩ ⟨Nat.le_of_ble_eq_true rfl, Nat.le_of_ble_eq_true rfl⟩ ⟨Nat.zero_le _, Nat.zero_le _⟩ rfl (Nat.le_of_ble_eq_true rfl) dX7_tells_3) hS (by intro q hq; omega) (fun H1 locs q2 k3 hS => ?_)
  have h1 := q2
  have hk7 := gSg_free hk7 k3 (by intro k hk q; simp only [List.length_cons, List.length_nil] at hk; omega)
  refine lv_aload_n hx hb dX7_tells_6 rfl (lv_at hl 0 rfl) ?_
  refine lv_aload_n hx hb dX7_tells_7 rfl (lv_at hl 1 rfl) ?_
  refine lv_iload_n hx hb dX7_tells_8 rfl (lv_at hl 2 rfl) ?_
  have hn9 := gFli_l p v 2 2 x
  refine g_ki (g_runW (x := yX7_flies) (rest := []) (T := TX1) (ci := 1) (N := 0) (C := RX1) hx hb hml hown hE hT (c_X7_flies_2 l G  k0 a (gTb1 f 12) hd (t + 1) (gTb1_n ht) p v (by simp only [gTbs_1, gTb1_1]; exact hi) (by simp only [gTbs_2, gTb1_2]; exact hv) (by first | omega | (simp only [List.length_append, List.length_cons, List.length_nil]; omega)) x) gM_X7_flies gm_X7_26 gi_X7_flies gs_RX1_GoodNewsPigeons_Pigeon_flies_LGoodNewsPigeons_Act_I_I_yX7_flies gx_909 gi_X7_flies gc_X7_flies ⟨by decide, by decide, by decide +kernel⟩ rfl (hk7 2 _ rfl) ⟨hk7, h1⟩ rfl hl.1 ⟨rfl, rfl⟩ ⟨Nat.le_of_ble_eq_true rfl, Nat.le_of_ble_eq_true rfl⟩ ⟨Nat.zero_le _, Nat.zero_le _⟩ rfl (Nat.le_of_ble_eq_true rfl) dX7_tells_9) hS (by intro q hq; omega) (fun r8 H5 locs q6 k7 hS => ?_)
  obtain ⟨e9, hk7, h1⟩ := q6
  rw [e9]
  refine lv_iconst (v := 2) hx hb dX7_tells_12 (by decide) ?_
  refine lv_imul hx hb dX7_tells_13 ?_
  rw [← hQ]
  exact g_iret hx hb hr hlk hS dX7_tells_14 ⟨rfl, hk7, by rw [show gTbs f ([12] ++ (gFli p v 2 2 x).2) = gTbs (gTb1 f 12) ((gFli p v 2 2 x).2) from by simp only [gTbs, List.foldl_append, List.foldl_cons, List.foldl_nil] <;> rfl]; exact h1⟩

set_option maxHeartbeats 4000000 in
set_option maxRecDepth 100000 in
theorem c_X7_tells_3 (l : Launch) (G : gW) (k0 a : Nat) (f : gPS) (hd : k0 + 7 ≤ a ∨ a + 2 ≤ k0) (t : Nat) (ht : f 1 0 = nI t) (p : Nat) (v : Int32) (hi : f 1 1 = nI p) (hv : f 1 2 = v) (htl : t ≤ 1000) (x : Int32) : gCI l yX7_tells cX7_tells 3 .int (gRm 3 65) G [.ref (k0 + 3), .ref a, .int x] (fun H => gSg G k0 (gKk G k0) H ∧ gSg G a (gLA G a f) H) (fun r H => r = (gFli p v 3 3 x).1 * 2 ∧ gSg G k0 (gKk G k0) H ∧ gSg G a (gLA G a (gTbs f ([12] ++ (gFli p v 3 3 x).2))) H) (fun q => a ≤ q ∧ q < a + 2) := by
  refine g_start (by decide) (Nat.le_of_ble_eq_true rfl) ?_
  intro pp_ ee_ s mm_ aa_ below meth cc_ ls Q hQ hX hE hP hl
  obtain ⟨hx, hb, hr, hml, hown, hT, hlk, hnm⟩ := hX
  have hK := hE.2.1
  obtain ⟨hk7, h1⟩ := hP
  have hS : va_S (fun q => a ≤ q ∧ q < a + 2) s.heap s.heap [] := va_S.rf
  have hl : lv_has ls 3 [(0, .ref (k0 + 3)), (1, .ref a), (2, .int x)] := hl
  refine lv_aload_n hx hb dX7_tells_0 rfl (lv_at hl 1 rfl) ?_
  refine lv_bipush (v := 12) hx hb dX7_tells_1 (by decide) ?_
  refine g_kv (g_runV (T := TX0) (ci := 0) (N := 4) (rest := []) hx hb hml hown hE hT (c_X0_begins l G a f t ht (by first | omega | (simp only [List.length_append, List.length_cons, List.length_nil]; omega)) 12) gM_X0_begins gm_X7_7 gi_X0_begins gs_RX0_yX0_begins_yX0_begins rfl (h1 0 _ rfl) h1 rfl hl.1 ⟨rfl, rfl⟩ ⟨Nat.le_of_ble_eq_true rfl, Nat.le_of_ble_eq_true rfl⟩ ⟨Nat.zero_le _, Nat.zero_le _⟩ rfl (Nat.le_of_ble_eq_true rfl) dX7_tells_3) hS (by intro q hq; omega) (fun H1 locs q2 k3 hS => ?_)
  have h1 := q2
  have hk7 := gSg_free hk7 k3 (by intro k hk q; simp only [List.length_cons, List.length_nil] at hk; omega)
  refine lv_aload_n hx hb dX7_tells_6 rfl (lv_at hl 0 rfl) ?_
  refine lv_aload_n hx hb dX7_tells_7 rfl (lv_at hl 1 rfl) ?_
  refine lv_iload_n hx hb dX7_tells_8 rfl (lv_at hl 2 rfl) ?_
  have hn9 := gFli_l p v 3 3 x
  refine g_ki (g_runW (x := yX7_flies) (rest := []) (T := TX4) (ci := 4) (N := 0) (C := RX4) hx hb hml hown hE hT (c_X7_flies_3 l G  k0 a (gTb1 f 12) hd (t + 1) (gTb1_n ht) p v (by simp only [gTbs_1, gTb1_1]; exact hi) (by simp only [gTbs_2, gTb1_2]; exact hv) (by first | omega | (simp only [List.length_append, List.length_cons, List.length_nil]; omega)) x) gM_X7_flies gm_X7_26 gi_X7_flies gs_RX4_GoodNewsPigeons_Pigeon_flies_LGoodNewsPigeons_Act_I_I_yX7_flies gx_909 gi_X7_flies gc_X7_flies ⟨by decide, by decide, by decide +kernel⟩ rfl (hk7 3 _ rfl) ⟨hk7, h1⟩ rfl hl.1 ⟨rfl, rfl⟩ ⟨Nat.le_of_ble_eq_true rfl, Nat.le_of_ble_eq_true rfl⟩ ⟨Nat.zero_le _, Nat.zero_le _⟩ rfl (Nat.le_of_ble_eq_true rfl) dX7_tells_9) hS (by intro q hq; omega) (fun r8 H5 locs q6 k7 hS => ?_)
  obtain ⟨e9, hk7, h1⟩ := q6
  rw [e9]
  refine lv_iconst (v := 2) hx hb dX7_tells_12 (by decide) ?_
  refine lv_imul hx hb dX7_tells_13 ?_
  rw [← hQ]
  exact g_iret hx hb hr hlk hS dX7_tells_14 ⟨rfl, hk7, by rw [show gTbs f ([12] ++ (gFli p v 3 3 x).2) = gTbs (gTb1 f 12) ((gFli p v 3 3 x).2) from by simp only [gTbs, List.foldl_append, List.foldl_cons, List.foldl_nil] <;> rfl]; exact h1⟩

set_option maxHeartbeats 4000000 in
set_option maxRecDepth 100000 in
theorem c_X7_tells_4 (l : Launch) (G : gW) (k0 a : Nat) (f : gPS) (hd : k0 + 7 ≤ a ∨ a + 2 ≤ k0) (t : Nat) (ht : f 1 0 = nI t) (p : Nat) (v : Int32) (hi : f 1 1 = nI p) (hv : f 1 2 = v) (htl : t ≤ 1000) (x : Int32) : gCI l yX7_tells cX7_tells 3 .int (gRm 6 131) G [.ref (k0 + 4), .ref a, .int x] (fun H => gSg G k0 (gKk G k0) H ∧ gSg G a (gLA G a f) H) (fun r H => r = (gFli p v 4 4 x).1 * 2 ∧ gSg G k0 (gKk G k0) H ∧ gSg G a (gLA G a (gTbs f ([12] ++ (gFli p v 4 4 x).2))) H) (fun q => a ≤ q ∧ q < a + 2) := by
  refine g_start (by decide) (Nat.le_of_ble_eq_true rfl) ?_
  intro pp_ ee_ s mm_ aa_ below meth cc_ ls Q hQ hX hE hP hl
  obtain ⟨hx, hb, hr, hml, hown, hT, hlk, hnm⟩ := hX
  have hK := hE.2.1
  obtain ⟨hk7, h1⟩ := hP
  have hS : va_S (fun q => a ≤ q ∧ q < a + 2) s.heap s.heap [] := va_S.rf
  have hl : lv_has ls 3 [(0, .ref (k0 + 4)), (1, .ref a), (2, .int x)] := hl
  refine lv_aload_n hx hb dX7_tells_0 rfl (lv_at hl 1 rfl) ?_
  refine lv_bipush (v := 12) hx hb dX7_tells_1 (by decide) ?_
  refine g_kv (g_runV (T := TX0) (ci := 0) (N := 4) (rest := []) hx hb hml hown hE hT (c_X0_begins l G a f t ht (by first | omega | (simp only [List.length_append, List.length_cons, List.length_nil]; omega)) 12) gM_X0_begins gm_X7_7 gi_X0_begins gs_RX0_yX0_begins_yX0_begins rfl (h1 0 _ rfl) h1 rfl hl.1 ⟨rfl, rfl⟩ ⟨Nat.le_of_ble_eq_true rfl, Nat.le_of_ble_eq_true rfl⟩ ⟨Nat.zero_le _, Nat.zero_le _⟩ rfl (Nat.le_of_ble_eq_true rfl) dX7_tells_3) hS (by intro q hq; omega) (fun H1 locs q2 k3 hS => ?_)
  have h1 := q2
  have hk7 := gSg_free hk7 k3 (by intro k hk q; simp only [List.length_cons, List.length_nil] at hk; omega)
  refine lv_aload_n hx hb dX7_tells_6 rfl (lv_at hl 0 rfl) ?_
  refine lv_aload_n hx hb dX7_tells_7 rfl (lv_at hl 1 rfl) ?_
  refine lv_iload_n hx hb dX7_tells_8 rfl (lv_at hl 2 rfl) ?_
  have hn9 := gFli_l p v 4 4 x
  refine g_ki (g_runW (x := yX7_flies) (rest := []) (T := TX3) (ci := 3) (N := 0) (C := RX3) hx hb hml hown hE hT (c_X3_flies_4 l G  k0 a (gTb1 f 12) hd (t + 1) (gTb1_n ht) p v (by simp only [gTbs_1, gTb1_1]; exact hi) (by simp only [gTbs_2, gTb1_2]; exact hv) (by first | omega | (simp only [List.length_append, List.length_cons, List.length_nil]; omega)) x) gM_X3_flies gm_X7_26 gi_X3_flies gs_RX3_GoodNewsPigeons_Pigeon_flies_LGoodNewsPigeons_Act_I_I_yX3_flies gx_909 gi_X7_flies gc_X7_flies ⟨by decide, by decide, by decide +kernel⟩ rfl (hk7 4 _ rfl) ⟨hk7, h1⟩ rfl hl.1 ⟨rfl, rfl⟩ ⟨Nat.le_of_ble_eq_true rfl, Nat.le_of_ble_eq_true rfl⟩ ⟨Nat.zero_le _, Nat.zero_le _⟩ rfl (Nat.le_of_ble_eq_true rfl) dX7_tells_9) hS (by intro q hq; omega) (fun r8 H5 locs q6 k7 hS => ?_)
  obtain ⟨e9, hk7, h1⟩ := q6
  rw [e9]
  refine lv_iconst (v := 2) hx hb dX7_tells_12 (by decide) ?_
  refine lv_imul hx hb dX7_tells_13 ?_
  rw [← hQ]
  exact g_iret hx hb hr hlk hS dX7_tells_14 ⟨rfl, hk7, by rw [show gTbs f ([12] ++ (gFli p v 4 4 x).2) = gTbs (gTb1 f 12) ((gFli p v 4 4 x).2) from by simp only [gTbs, List.foldl_append, List.foldl_cons, List.foldl_nil] <;> rfl]; exact h1⟩

set_option maxHeartbeats 4000000 in
set_option maxRecDepth 100000 in
theorem c_X7_tells_5 (l : Launch) (G : gW) (k0 a : Nat) (f : gPS) (hd : k0 + 7 ≤ a ∨ a + 2 ≤ k0) (t : Nat) (ht : f 1 0 = nI t) (p : Nat) (v : Int32) (hi : f 1 1 = nI p) (hv : f 1 2 = v) (htl : t ≤ 1000) (x : Int32) : gCI l yX7_tells cX7_tells 3 .int (gRm 4 87) G [.ref (k0 + 5), .ref a, .int x] (fun H => gSg G k0 (gKk G k0) H ∧ gSg G a (gLA G a f) H) (fun r H => r = (gFli p v 5 5 x).1 * 2 ∧ gSg G k0 (gKk G k0) H ∧ gSg G a (gLA G a (gTbs f ([12] ++ (gFli p v 5 5 x).2))) H) (fun q => a ≤ q ∧ q < a + 2) := by
  refine g_start (by decide) (Nat.le_of_ble_eq_true rfl) ?_
  intro pp_ ee_ s mm_ aa_ below meth cc_ ls Q hQ hX hE hP hl
  obtain ⟨hx, hb, hr, hml, hown, hT, hlk, hnm⟩ := hX
  have hK := hE.2.1
  obtain ⟨hk7, h1⟩ := hP
  have hS : va_S (fun q => a ≤ q ∧ q < a + 2) s.heap s.heap [] := va_S.rf
  have hl : lv_has ls 3 [(0, .ref (k0 + 5)), (1, .ref a), (2, .int x)] := hl
  refine lv_aload_n hx hb dX7_tells_0 rfl (lv_at hl 1 rfl) ?_
  refine lv_bipush (v := 12) hx hb dX7_tells_1 (by decide) ?_
  refine g_kv (g_runV (T := TX0) (ci := 0) (N := 4) (rest := []) hx hb hml hown hE hT (c_X0_begins l G a f t ht (by first | omega | (simp only [List.length_append, List.length_cons, List.length_nil]; omega)) 12) gM_X0_begins gm_X7_7 gi_X0_begins gs_RX0_yX0_begins_yX0_begins rfl (h1 0 _ rfl) h1 rfl hl.1 ⟨rfl, rfl⟩ ⟨Nat.le_of_ble_eq_true rfl, Nat.le_of_ble_eq_true rfl⟩ ⟨Nat.zero_le _, Nat.zero_le _⟩ rfl (Nat.le_of_ble_eq_true rfl) dX7_tells_3) hS (by intro q hq; omega) (fun H1 locs q2 k3 hS => ?_)
  have h1 := q2
  have hk7 := gSg_free hk7 k3 (by intro k hk q; simp only [List.length_cons, List.length_nil] at hk; omega)
  refine lv_aload_n hx hb dX7_tells_6 rfl (lv_at hl 0 rfl) ?_
  refine lv_aload_n hx hb dX7_tells_7 rfl (lv_at hl 1 rfl) ?_
  refine lv_iload_n hx hb dX7_tells_8 rfl (lv_at hl 2 rfl) ?_
  have hn9 := gFli_l p v 5 5 x
  refine g_ki (g_runW (x := yX7_flies) (rest := []) (T := TX6) (ci := 6) (N := 0) (C := RX6) hx hb hml hown hE hT (c_X7_flies_5 l G  k0 a (gTb1 f 12) hd (t + 1) (gTb1_n ht) p v (by simp only [gTbs_1, gTb1_1]; exact hi) (by simp only [gTbs_2, gTb1_2]; exact hv) (by first | omega | (simp only [List.length_append, List.length_cons, List.length_nil]; omega)) x) gM_X7_flies gm_X7_26 gi_X7_flies gs_RX6_GoodNewsPigeons_Pigeon_flies_LGoodNewsPigeons_Act_I_I_yX7_flies gx_909 gi_X7_flies gc_X7_flies ⟨by decide, by decide, by decide +kernel⟩ rfl (hk7 5 _ rfl) ⟨hk7, h1⟩ rfl hl.1 ⟨rfl, rfl⟩ ⟨Nat.le_of_ble_eq_true rfl, Nat.le_of_ble_eq_true rfl⟩ ⟨Nat.zero_le _, Nat.zero_le _⟩ rfl (Nat.le_of_ble_eq_true rfl) dX7_tells_9) hS (by intro q hq; omega) (fun r8 H5 locs q6 k7 hS => ?_)
  obtain ⟨e9, hk7, h1⟩ := q6
  rw [e9]
  refine lv_iconst (v := 2) hx hb dX7_tells_12 (by decide) ?_
  refine lv_imul hx hb dX7_tells_13 ?_
  rw [← hQ]
  exact g_iret hx hb hr hlk hS dX7_tells_14 ⟨rfl, hk7, by rw [show gTbs f ([12] ++ (gFli p v 5 5 x).2) = gTbs (gTb1 f 12) ((gFli p v 5 5 x).2) from by simp only [gTbs, List.foldl_append, List.foldl_cons, List.foldl_nil] <;> rfl]; exact h1⟩

set_option maxHeartbeats 4000000 in
set_option maxRecDepth 100000 in
theorem c_X7_tells_6 (l : Launch) (G : gW) (k0 a : Nat) (f : gPS) (hd : k0 + 7 ≤ a ∨ a + 2 ≤ k0) (t : Nat) (ht : f 1 0 = nI t) (p : Nat) (v : Int32) (hi : f 1 1 = nI p) (hv : f 1 2 = v) (htl : t ≤ 1000) (x : Int32) : gCI l yX7_tells cX7_tells 3 .int (gRm 5 109) G [.ref (k0 + 6), .ref a, .int x] (fun H => gSg G k0 (gKk G k0) H ∧ gSg G a (gLA G a f) H) (fun r H => r = (gFli p v 6 6 x).1 * 2 ∧ gSg G k0 (gKk G k0) H ∧ gSg G a (gLA G a (gTbs f ([12] ++ (gFli p v 6 6 x).2))) H) (fun q => a ≤ q ∧ q < a + 2) := by
  refine g_start (by decide) (Nat.le_of_ble_eq_true rfl) ?_
  intro pp_ ee_ s mm_ aa_ below meth cc_ ls Q hQ hX hE hP hl
  obtain ⟨hx, hb, hr, hml, hown, hT, hlk, hnm⟩ := hX
  have hK := hE.2.1
  obtain ⟨hk7, h1⟩ := hP
  have hS : va_S (fun q => a ≤ q ∧ q < a + 2) s.heap s.heap [] := va_S.rf
  have hl : lv_has ls 3 [(0, .ref (k0 + 6)), (1, .ref a), (2, .int x)] := hl
  refine lv_aload_n hx hb dX7_tells_0 rfl (lv_at hl 1 rfl) ?_
  refine lv_bipush (v := 12) hx hb dX7_tells_1 (by decide) ?_
  refine g_kv (g_runV (T := TX0) (ci := 0) (N := 4) (rest := []) hx hb hml hown hE hT (c_X0_begins l G a f t ht (by first | omega | (simp only [List.length_append, List.length_cons, List.length_nil]; omega)) 12) gM_X0_begins gm_X7_7 gi_X0_begins gs_RX0_yX0_begins_yX0_begins rfl (h1 0 _ rfl) h1 rfl hl.1 ⟨rfl, rfl⟩ ⟨Nat.le_of_ble_eq_true rfl, Nat.le_of_ble_eq_true rfl⟩ ⟨Nat.zero_le _, Nat.zero_le _⟩ rfl (Nat.le_of_ble_eq_true rfl) dX7_tells_3) hS (by intro q hq; omega) (fun H1 locs q2 k3 hS => ?_)
  have h1 := q2
  have hk7 := gSg_free hk7 k3 (by intro k hk q; simp only [List.length_cons, List.length_nil] at hk; omega)
  refine lv_aload_n hx hb dX7_tells_6 rfl (lv_at hl 0 rfl) ?_
  refine lv_aload_n hx hb dX7_tells_7 rfl (lv_at hl 1 rfl) ?_
  refine lv_iload_n hx hb dX7_tells_8 rfl (lv_at hl 2 rfl) ?_
  have hn9 := gFli_l p v 6 6 x
  refine g_ki (g_runW (x := yX7_flies) (rest := []) (T := TX10) (ci := 10) (N := 0) (C := RX10) hx hb hml hown hE hT (c_X10_flies_6 l G  k0 a (gTb1 f 12) hd (t + 1) (gTb1_n ht) p v (by simp only [gTbs_1, gTb1_1]; exact hi) (by simp only [gTbs_2, gTb1_2]; exact hv) (by first | omega | (simp only [List.length_append, List.length_cons, List.length_nil]; omega)) x) gM_X10_flies gm_X7_26 gi_X10_flies gs_RX10_GoodNewsPigeons_Pigeon_flies_LGoodNewsPigeons_Act_I_I_yX10_flies gx_909 gi_X7_flies gc_X7_flies ⟨by decide, by decide, by decide +kernel⟩ rfl (hk7 6 _ rfl) ⟨hk7, h1⟩ rfl hl.1 ⟨rfl, rfl⟩ ⟨Nat.le_of_ble_eq_true rfl, Nat.le_of_ble_eq_true rfl⟩ ⟨Nat.zero_le _, Nat.zero_le _⟩ rfl (Nat.le_of_ble_eq_true rfl) dX7_tells_9) hS (by intro q hq; omega) (fun r8 H5 locs q6 k7 hS => ?_)
  obtain ⟨e9, hk7, h1⟩ := q6
  rw [e9]
  refine lv_iconst (v := 2) hx hb dX7_tells_12 (by decide) ?_
  refine lv_imul hx hb dX7_tells_13 ?_
  rw [← hQ]
  exact g_iret hx hb hr hlk hS dX7_tells_14 ⟨rfl, hk7, by rw [show gTbs f ([12] ++ (gFli p v 6 6 x).2) = gTbs (gTb1 f 12) ((gFli p v 6 6 x).2) from by simp only [gTbs, List.foldl_append, List.foldl_cons, List.foldl_nil] <;> rfl]; exact h1⟩

set_option maxHeartbeats 4000000 in
set_option maxRecDepth 100000 in
theorem c_X4_tells_3 (l : Launch) (G : gW) (k0 a : Nat) (f : gPS) (hd : k0 + 7 ≤ a ∨ a + 2 ≤ k0) (t : Nat) (ht : f 1 0 = nI t) (p : Nat) (v : Int32) (hi : f 1 1 = nI p) (hv : f 1 2 = v) (htl : t ≤ 990) (x : Int32) : gCI l yX4_tells cX4_tells 3 .int (gRm 4 87) G [.ref (k0 + 3), .ref a, .int x] (fun H => gSg G k0 (gKk G k0) H ∧ gSg G a (gLA G a f) H) (fun r H => r = (gFli p v 3 3 x).1 * 2 + (gFli p v 3 3 1).1 ∧ gSg G k0 (gKk G k0) H ∧ gSg G a (gLA G a (gTbs f ([40, 12] ++ (gFli p v 3 3 x).2 ++ (gFli p v 3 3 1).2))) H) (fun q => a ≤ q ∧ q < a + 2) := by
  refine g_start (by decide) (Nat.le_of_ble_eq_true rfl) ?_
  intro pp_ ee_ s mm_ aa_ below meth cc_ ls Q hQ hX hE hP hl
  obtain ⟨hx, hb, hr, hml, hown, hT, hlk, hnm⟩ := hX
  have hK := hE.2.1
  obtain ⟨hk7, h1⟩ := hP
  have hS : va_S (fun q => a ≤ q ∧ q < a + 2) s.heap s.heap [] := va_S.rf
  have hl : lv_has ls 3 [(0, .ref (k0 + 3)), (1, .ref a), (2, .int x)] := hl
  refine lv_aload_n hx hb dX4_tells_0 rfl (lv_at hl 1 rfl) ?_
  refine lv_bipush (v := 40) hx hb dX4_tells_1 (by decide) ?_
  refine g_kv (g_runV (T := TX0) (ci := 0) (N := 4) (rest := []) hx hb hml hown hE hT (c_X0_begins l G a f t ht (by first | omega | (simp only [List.length_append, List.length_cons, List.length_nil]; omega)) 40) gM_X0_begins gm_X4_15 gi_X0_begins gs_RX0_yX0_begins_yX0_begins rfl (h1 0 _ rfl) h1 rfl hl.1 ⟨rfl, rfl⟩ ⟨Nat.le_of_ble_eq_true rfl, Nat.le_of_ble_eq_true rfl⟩ ⟨Nat.zero_le _, Nat.zero_le _⟩ rfl (Nat.le_of_ble_eq_true rfl) dX4_tells_3) hS (by intro q hq; omega) (fun H1 locs q2 k3 hS => ?_)
  have h1 := q2
  have hk7 := gSg_free hk7 k3 (by intro k hk q; simp only [List.length_cons, List.length_nil] at hk; omega)
  refine lv_aload_n hx hb dX4_tells_6 rfl (lv_at hl 0 rfl) ?_
  refine lv_aload_n hx hb dX4_tells_7 rfl (lv_at hl 1 rfl) ?_
  refine lv_iload_n hx hb dX4_tells_8 rfl (lv_at hl 2 rfl) ?_
  have hn9 := gFli_l p v 3 3 x
  refine g_ki (g_runP (rest := []) (T := TX4) (ci := 4) (N := 0) (C := RX4) hx hb hml hown hE hT (c_X7_tells_3 l G  k0 a (gTb1 f 40) hd (t + 1) (gTb1_n ht) p v (by simp only [gTbs_1, gTb1_1]; exact hi) (by simp only [gTbs_2, gTb1_2]; exact hv) (by first | omega | (simp only [List.length_append, List.length_cons, List.length_nil]; omega)) x) gM_X7_tells gm_X4_21 gi_X7_tells gx_936 gx_950 rfl (Or.inl rfl) (by decide) rfl (hk7 3 _ rfl) ⟨hk7, h1⟩ rfl hl.1 ⟨rfl, rfl⟩ ⟨Nat.le_of_ble_eq_true rfl, Nat.le_of_ble_eq_true rfl⟩ ⟨Nat.zero_le _, Nat.zero_le _⟩ rfl (Nat.le_of_ble_eq_true rfl) dX4_tells_9) hS (by intro q hq; omega) (fun r8 H5 locs q6 k7 hS => ?_)
  obtain ⟨e9, hk7, h1⟩ := q6
  rw [e9]
  refine lv_aload_n hx hb dX4_tells_12 rfl (lv_at hl 0 rfl) ?_
  refine lv_aload_n hx hb dX4_tells_13 rfl (lv_at hl 1 rfl) ?_
  refine lv_iconst (v := 1) hx hb dX4_tells_14 (by decide) ?_
  have hn15 := gFli_l p v 3 3 1
  refine g_ki (g_runZ (x := ⟨"GoodNewsPigeons$Keen", "flies", "(LGoodNewsPigeons$Act;I)I"⟩) (z := yX7_flies) (rest := [.int ((gFli p v 3 3 x).1 * 2)]) (T := TX4) (ci := 4) (N := 0) (C := RX4) hx hb hml hown hE hT (c_X7_flies_3 l G  k0 a (gTbs (gTb1 f 40) ([12] ++ (gFli p v 3 3 x).2)) hd (t + 1 + ([12] ++ (gFli p v 3 3 x).2).length) (gTbs_n _ (gTb1_n ht)) p v (by simp only [gTbs_1, gTb1_1]; exact hi) (by simp only [gTbs_2, gTb1_2]; exact hv) (by first | omega | (simp only [List.length_append, List.length_cons, List.length_nil]; omega)) 1) gM_X7_flies gm_X4_25 gi_X7_flies gs_RX4_GoodNewsPigeons_Keen_flies_LGoodNewsPigeons_Act_I_I_yX7_flies gx_952 rfl gi_X7_flies gc_X7_flies ⟨by decide, by decide, by decide +kernel⟩ rfl (hk7 3 _ rfl) ⟨hk7, h1⟩ rfl hl.1 ⟨rfl, rfl⟩ ⟨Nat.le_of_ble_eq_true rfl, Nat.le_of_ble_eq_true rfl⟩ ⟨Nat.zero_le _, Nat.zero_le _⟩ rfl (Nat.le_of_ble_eq_true rfl) dX4_tells_15) hS (by intro q hq; omega) (fun r12 H9 locs q10 k11 hS => ?_)
  obtain ⟨e9, hk7, h1⟩ := q10
  rw [e9]
  refine lv_iadd hx hb dX4_tells_18 ?_
  rw [← hQ]
  exact g_iret hx hb hr hlk hS dX4_tells_19 ⟨rfl, hk7, by rw [show gTbs f ([40, 12] ++ (gFli p v 3 3 x).2 ++ (gFli p v 3 3 1).2) = gTbs (gTbs (gTb1 f 40) ([12] ++ (gFli p v 3 3 x).2)) ((gFli p v 3 3 1).2) from by simp only [gTbs, List.foldl_append, List.foldl_cons, List.foldl_nil] <;> rfl]; exact h1⟩

set_option maxHeartbeats 4000000 in
set_option maxRecDepth 100000 in
theorem c_X4_tells_6 (l : Launch) (G : gW) (k0 a : Nat) (f : gPS) (hd : k0 + 7 ≤ a ∨ a + 2 ≤ k0) (t : Nat) (ht : f 1 0 = nI t) (p : Nat) (v : Int32) (hi : f 1 1 = nI p) (hv : f 1 2 = v) (htl : t ≤ 990) (x : Int32) : gCI l yX4_tells cX4_tells 3 .int (gRm 6 131) G [.ref (k0 + 6), .ref a, .int x] (fun H => gSg G k0 (gKk G k0) H ∧ gSg G a (gLA G a f) H) (fun r H => r = (gFli p v 6 6 x).1 * 2 + (gFli p v 6 6 1).1 ∧ gSg G k0 (gKk G k0) H ∧ gSg G a (gLA G a (gTbs f ([40, 12] ++ (gFli p v 6 6 x).2 ++ (gFli p v 6 6 1).2))) H) (fun q => a ≤ q ∧ q < a + 2) := by
  refine g_start (by decide) (Nat.le_of_ble_eq_true rfl) ?_
  intro pp_ ee_ s mm_ aa_ below meth cc_ ls Q hQ hX hE hP hl
  obtain ⟨hx, hb, hr, hml, hown, hT, hlk, hnm⟩ := hX
  have hK := hE.2.1
  obtain ⟨hk7, h1⟩ := hP
  have hS : va_S (fun q => a ≤ q ∧ q < a + 2) s.heap s.heap [] := va_S.rf
  have hl : lv_has ls 3 [(0, .ref (k0 + 6)), (1, .ref a), (2, .int x)] := hl
  refine lv_aload_n hx hb dX4_tells_0 rfl (lv_at hl 1 rfl) ?_
  refine lv_bipush (v := 40) hx hb dX4_tells_1 (by decide) ?_
  refine g_kv (g_runV (T := TX0) (ci := 0) (N := 4) (rest := []) hx hb hml hown hE hT (c_X0_begins l G a f t ht (by first | omega | (simp only [List.length_append, List.length_cons, List.length_nil]; omega)) 40) gM_X0_begins gm_X4_15 gi_X0_begins gs_RX0_yX0_begins_yX0_begins rfl (h1 0 _ rfl) h1 rfl hl.1 ⟨rfl, rfl⟩ ⟨Nat.le_of_ble_eq_true rfl, Nat.le_of_ble_eq_true rfl⟩ ⟨Nat.zero_le _, Nat.zero_le _⟩ rfl (Nat.le_of_ble_eq_true rfl) dX4_tells_3) hS (by intro q hq; omega) (fun H1 locs q2 k3 hS => ?_)
  have h1 := q2
  have hk7 := gSg_free hk7 k3 (by intro k hk q; simp only [List.length_cons, List.length_nil] at hk; omega)
  refine lv_aload_n hx hb dX4_tells_6 rfl (lv_at hl 0 rfl) ?_
  refine lv_aload_n hx hb dX4_tells_7 rfl (lv_at hl 1 rfl) ?_
  refine lv_iload_n hx hb dX4_tells_8 rfl (lv_at hl 2 rfl) ?_
  have hn9 := gFli_l p v 6 6 x
  refine g_ki (g_runP (rest := []) (T := TX10) (ci := 10) (N := 0) (C := RX10) hx hb hml hown hE hT (c_X7_tells_6 l G  k0 a (gTb1 f 40) hd (t + 1) (gTb1_n ht) p v (by simp only [gTbs_1, gTb1_1]; exact hi) (by simp only [gTbs_2, gTb1_2]; exact hv) (by first | omega | (simp only [List.length_append, List.length_cons, List.length_nil]; omega)) x) gM_X7_tells gm_X4_21 gi_X7_tells gx_936 gx_950 rfl (Or.inl rfl) (by decide) rfl (hk7 6 _ rfl) ⟨hk7, h1⟩ rfl hl.1 ⟨rfl, rfl⟩ ⟨Nat.le_of_ble_eq_true rfl, Nat.le_of_ble_eq_true rfl⟩ ⟨Nat.zero_le _, Nat.zero_le _⟩ rfl (Nat.le_of_ble_eq_true rfl) dX4_tells_9) hS (by intro q hq; omega) (fun r8 H5 locs q6 k7 hS => ?_)
  obtain ⟨e9, hk7, h1⟩ := q6
  rw [e9]
  refine lv_aload_n hx hb dX4_tells_12 rfl (lv_at hl 0 rfl) ?_
  refine lv_aload_n hx hb dX4_tells_13 rfl (lv_at hl 1 rfl) ?_
  refine lv_iconst (v := 1) hx hb dX4_tells_14 (by decide) ?_
  have hn15 := gFli_l p v 6 6 1
  refine g_ki (g_runZ (x := ⟨"GoodNewsPigeons$Keen", "flies", "(LGoodNewsPigeons$Act;I)I"⟩) (z := yX7_flies) (rest := [.int ((gFli p v 6 6 x).1 * 2)]) (T := TX10) (ci := 10) (N := 0) (C := RX10) hx hb hml hown hE hT (c_X10_flies_6 l G  k0 a (gTbs (gTb1 f 40) ([12] ++ (gFli p v 6 6 x).2)) hd (t + 1 + ([12] ++ (gFli p v 6 6 x).2).length) (gTbs_n _ (gTb1_n ht)) p v (by simp only [gTbs_1, gTb1_1]; exact hi) (by simp only [gTbs_2, gTb1_2]; exact hv) (by first | omega | (simp only [List.length_append, List.length_cons, List.length_nil]; omega)) 1) gM_X10_flies gm_X4_25 gi_X10_flies gs_RX10_GoodNewsPigeons_Keen_flies_LGoodNewsPigeons_Act_I_I_yX10_flies gx_952 rfl gi_X7_flies gc_X7_flies ⟨by decide, by decide, by decide +kernel⟩ rfl (hk7 6 _ rfl) ⟨hk7, h1⟩ rfl hl.1 ⟨rfl, rfl⟩ ⟨Nat.le_of_ble_eq_true rfl, Nat.le_of_ble_eq_true rfl⟩ ⟨Nat.zero_le _, Nat.zero_le _⟩ rfl (Nat.le_of_ble_eq_true rfl) dX4_tells_15) hS (by intro q hq; omega) (fun r12 H9 locs q10 k11 hS => ?_)
  obtain ⟨e9, hk7, h1⟩ := q10
  rw [e9]
  refine lv_iadd hx hb dX4_tells_18 ?_
  rw [← hQ]
  exact g_iret hx hb hr hlk hS dX4_tells_19 ⟨rfl, hk7, by rw [show gTbs f ([40, 12] ++ (gFli p v 6 6 x).2 ++ (gFli p v 6 6 1).2) = gTbs (gTbs (gTb1 f 40) ([12] ++ (gFli p v 6 6 x).2)) ((gFli p v 6 6 1).2) from by simp only [gTbs, List.foldl_append, List.foldl_cons, List.foldl_nil] <;> rfl]; exact h1⟩

set_option maxHeartbeats 4000000 in
set_option maxRecDepth 100000 in
theorem c_X6_tells_5 (l : Launch) (G : gW) (k0 a : Nat) (f : gPS) (hd : k0 + 7 ≤ a ∨ a + 2 ≤ k0) (t : Nat) (ht : f 1 0 = nI t) (p : Nat) (v : Int32) (hi : f 1 1 = nI p) (hv : f 1 2 = v) (htl : t ≤ 990) (x : Int32) : gCI l yX6_tells cX6_tells 3 .int (gRm 5 109) G [.ref (k0 + 5), .ref a, .int x] (fun H => gSg G k0 (gKk G k0) H ∧ gSg G a (gLA G a f) H) (fun r H => r = (gFli p v 5 5 (x - nI p)).1 * 2 ∧ gSg G k0 (gKk G k0) H ∧ gSg G a (gLA G a (gTbs f ([60, 12] ++ (gFli p v 5 5 (x - nI p)).2))) H) (fun q => a ≤ q ∧ q < a + 2) := by
  refine g_start (by decide) (Nat.le_of_ble_eq_true rfl) ?_
  intro pp_ ee_ s mm_ aa_ below meth cc_ ls Q hQ hX hE hP hl
  obtain ⟨hx, hb, hr, hml, hown, hT, hlk, hnm⟩ := hX
  have hK := hE.2.1
  obtain ⟨hk7, h1⟩ := hP
  have hS : va_S (fun q => a ≤ q ∧ q < a + 2) s.heap s.heap [] := va_S.rf
  have hl : lv_has ls 3 [(0, .ref (k0 + 5)), (1, .ref a), (2, .int x)] := hl
  refine lv_aload_n hx hb dX6_tells_0 rfl (lv_at hl 1 rfl) ?_
  refine lv_bipush (v := 60) hx hb dX6_tells_1 (by decide) ?_
  refine g_kv (g_runV (T := TX0) (ci := 0) (N := 4) (rest := []) hx hb hml hown hE hT (c_X0_begins l G a f t ht (by first | omega | (simp only [List.length_append, List.length_cons, List.length_nil]; omega)) 60) gM_X0_begins gm_X6_23 gi_X0_begins gs_RX0_yX0_begins_yX0_begins rfl (h1 0 _ rfl) h1 rfl hl.1 ⟨rfl, rfl⟩ ⟨Nat.le_of_ble_eq_true rfl, Nat.le_of_ble_eq_true rfl⟩ ⟨Nat.zero_le _, Nat.zero_le _⟩ rfl (Nat.le_of_ble_eq_true rfl) dX6_tells_3) hS (by intro q hq; omega) (fun H1 locs q2 k3 hS => ?_)
  have h1 := q2
  have hk7 := gSg_free hk7 k3 (by intro k hk q; simp only [List.length_cons, List.length_nil] at hk; omega)
  refine lv_aload_n hx hb dX6_tells_6 rfl (lv_at hl 0 rfl) ?_
  refine lv_aload_n hx hb dX6_tells_7 rfl (lv_at hl 1 rfl) ?_
  refine lv_iload_n hx hb dX6_tells_8 rfl (lv_at hl 2 rfl) ?_
  refine lv_aload_n hx hb dX6_tells_9 rfl (lv_at hl 1 rfl) ?_
  refine g_get (v := .int ((gTb1 f 60) 1 1)) (T := TX0) (ci := 0) (N := 4) hx hb hown hK (gY_X0 hT) rfl (h1 0 _ rfl) 2 (by decide) (hT _ gf_X6_29) rfl dX6_tells_10 ?_
  rw [show (gTb1 f 60) 1 1 = nI p from (by simp only [gTbs_1, gTb1_1]; exact hi)]
  refine lv_isub hx hb dX6_tells_13 ?_
  have hn14 := gFli_l p v 5 5 (x - (nI p))
  refine g_ki (g_runP (rest := []) (T := TX6) (ci := 6) (N := 0) (C := RX6) hx hb hml hown hE hT (c_X7_tells_5 l G  k0 a (gTb1 f 60) hd (t + 1) (gTb1_n ht) p v (by simp only [gTbs_1, gTb1_1]; exact hi) (by simp only [gTbs_2, gTb1_2]; exact hv) (by first | omega | (simp only [List.length_append, List.length_cons, List.length_nil]; omega)) (x - (nI p))) gM_X7_tells gm_X6_32 gi_X7_tells gx_s1 gx_258 rfl (Or.inr gx_889) (by decide) rfl (hk7 5 _ rfl) ⟨hk7, h1⟩ rfl hl.1 ⟨rfl, rfl⟩ ⟨Nat.le_of_ble_eq_true rfl, Nat.le_of_ble_eq_true rfl⟩ ⟨Nat.zero_le _, Nat.zero_le _⟩ rfl (Nat.le_of_ble_eq_true rfl) dX6_tells_14) hS (by intro q hq; omega) (fun r8 H5 locs q6 k7 hS => ?_)
  obtain ⟨e9, hk7, h1⟩ := q6
  rw [e9]
  rw [← hQ]
  exact g_iret hx hb hr hlk hS dX6_tells_17 ⟨rfl, hk7, by rw [show gTbs f ([60, 12] ++ (gFli p v 5 5 (x - nI p)).2) = gTbs (gTb1 f 60) ([12] ++ (gFli p v 5 5 (x - (nI p))).2) from by simp only [gTbs, List.foldl_append, List.foldl_cons, List.foldl_nil] <;> rfl]; exact h1⟩
