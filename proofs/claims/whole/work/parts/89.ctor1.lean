set_option maxHeartbeats 4000000 in
set_option maxRecDepth 100000 in
theorem c_X7_init (l : Launch) (G : gW) (b : Nat) (x : va_E) : gCN2 l yX7_init cX7_init 1 1 24 0 0 G [.ref b] (fun H => gAt G b x H ∧ H.size = b + 1) (fun H => gAt G b x H ∧ H.size = b + 1) (fun q => b ≤ q) := by
  refine g_start2 (by decide) (Nat.le_of_ble_eq_true rfl) ?_
  intro pp_ ee_ s mm_ aa_ below meth cc_ ls Q hQ hX hE2 hP hl
  obtain ⟨hx, hb, hr, hml, hown, hT, hlk, hnm⟩ := hX
  have hE := hE2.1
  have hK := hE.2.1
  obtain ⟨zZ0, hsz⟩ := hP
  have hS : va_S (fun q => b ≤ q) s.heap s.heap [] := va_S.rf
  have hl : lv_has ls 1 [(0, .ref b)] := hl
  have zZ : gSg G b ([x]) s.heap := gSg_1 zZ0
  refine lv_aload_n hx hb dX7_init_0 rfl (lv_at hl 0 rfl) ?_
  refine g_objI hx hb hml hl.1 hown hT gm_X7_1 (Nat.le_of_ble_eq_true rfl) (Nat.le_of_ble_eq_true rfl) dX7_init_1 ?_
  rw [← hQ]
  exact g_vret hx hb hr hlk hS dX7_init_4 ⟨zZ 0 _ rfl, hsz⟩

set_option maxHeartbeats 4000000 in
set_option maxRecDepth 100000 in
theorem c_X2_init (l : Launch) (G : gW) (b : Nat) (x : va_E) : gCN2 l yX2_init cX2_init 1 2 44 0 0 G [.ref b] (fun H => gAt G b x H ∧ H.size = b + 1) (fun H => gAt G b x H ∧ H.size = b + 1) (fun q => b ≤ q) := by
  refine g_start2 (by decide) (Nat.le_of_ble_eq_true rfl) ?_
  intro pp_ ee_ s mm_ aa_ below meth cc_ ls Q hQ hX hE2 hP hl
  obtain ⟨hx, hb, hr, hml, hown, hT, hlk, hnm⟩ := hX
  have hE := hE2.1
  have hK := hE.2.1
  obtain ⟨zZ0, hsz⟩ := hP
  have hS : va_S (fun q => b ≤ q) s.heap s.heap [] := va_S.rf
  have hl : lv_has ls 1 [(0, .ref b)] := hl
  have zZ : gSg G b ([x]) s.heap := gSg_1 zZ0
  refine lv_aload_n hx hb dX2_init_0 rfl (lv_at hl 0 rfl) ?_
  refine g_kn (g_runN (As := []) (rest := []) (n := 0) hx hb hml hown hE2 hT (c_X7_init l G b x) gM_X7_init (List.mem_of_getElem? (i := 3) rfl) gi_X7_init rfl ⟨(zZ 0 _ rfl), hsz⟩ rfl hl.1 ⟨rfl, rfl⟩ ⟨Nat.le_of_ble_eq_true rfl, Nat.le_of_ble_eq_true rfl⟩ ⟨Nat.le_of_ble_eq_true rfl, Nat.le_of_ble_eq_true rfl⟩ rfl (Nat.le_of_ble_eq_true rfl) dX2_init_1) hS (fun q hq => hq) (fun H9 locs q10 k11 hS => ?_)
  obtain ⟨y1, y2⟩ := q10
  have zZ : gSg G b ([x]) H9 := gSg_1 y1
  have hsz : H9.size = b + 1 := y2
  rw [← hQ]
  exact g_vret hx hb hr hlk hS dX2_init_4 ⟨zZ 0 _ rfl, hsz⟩

set_option maxHeartbeats 4000000 in
set_option maxRecDepth 100000 in
theorem c_X1_init (l : Launch) (G : gW) (b : Nat) (x : va_E) : gCN2 l yX1_init cX1_init 1 2 44 0 0 G [.ref b] (fun H => gAt G b x H ∧ H.size = b + 1) (fun H => gAt G b x H ∧ H.size = b + 1) (fun q => b ≤ q) := by
  refine g_start2 (by decide) (Nat.le_of_ble_eq_true rfl) ?_
  intro pp_ ee_ s mm_ aa_ below meth cc_ ls Q hQ hX hE2 hP hl
  obtain ⟨hx, hb, hr, hml, hown, hT, hlk, hnm⟩ := hX
  have hE := hE2.1
  have hK := hE.2.1
  obtain ⟨zZ0, hsz⟩ := hP
  have hS : va_S (fun q => b ≤ q) s.heap s.heap [] := va_S.rf
  have hl : lv_has ls 1 [(0, .ref b)] := hl
  have zZ : gSg G b ([x]) s.heap := gSg_1 zZ0
  refine lv_aload_n hx hb dX1_init_0 rfl (lv_at hl 0 rfl) ?_
  refine g_kn (g_runN (As := []) (rest := []) (n := 0) hx hb hml hown hE2 hT (c_X7_init l G b x) gM_X7_init (List.mem_of_getElem? (i := 2) rfl) gi_X7_init rfl ⟨(zZ 0 _ rfl), hsz⟩ rfl hl.1 ⟨rfl, rfl⟩ ⟨Nat.le_of_ble_eq_true rfl, Nat.le_of_ble_eq_true rfl⟩ ⟨Nat.le_of_ble_eq_true rfl, Nat.le_of_ble_eq_true rfl⟩ rfl (Nat.le_of_ble_eq_true rfl) dX1_init_1) hS (fun q hq => hq) (fun H9 locs q10 k11 hS => ?_)
  obtain ⟨y1, y2⟩ := q10
  have zZ : gSg G b ([x]) H9 := gSg_1 y1
  have hsz : H9.size = b + 1 := y2
  rw [← hQ]
  exact g_vret hx hb hr hlk hS dX1_init_4 ⟨zZ 0 _ rfl, hsz⟩

set_option maxHeartbeats 4000000 in
set_option maxRecDepth 100000 in
theorem c_X4_init (l : Launch) (G : gW) (b : Nat) (x : va_E) : gCN2 l yX4_init cX4_init 1 2 44 0 0 G [.ref b] (fun H => gAt G b x H ∧ H.size = b + 1) (fun H => gAt G b x H ∧ H.size = b + 1) (fun q => b ≤ q) := by
  refine g_start2 (by decide) (Nat.le_of_ble_eq_true rfl) ?_
  intro pp_ ee_ s mm_ aa_ below meth cc_ ls Q hQ hX hE2 hP hl
  obtain ⟨hx, hb, hr, hml, hown, hT, hlk, hnm⟩ := hX
  have hE := hE2.1
  have hK := hE.2.1
  obtain ⟨zZ0, hsz⟩ := hP
  have hS : va_S (fun q => b ≤ q) s.heap s.heap [] := va_S.rf
  have hl : lv_has ls 1 [(0, .ref b)] := hl
  have zZ : gSg G b ([x]) s.heap := gSg_1 zZ0
  refine lv_aload_n hx hb dX4_init_0 rfl (lv_at hl 0 rfl) ?_
  refine g_kn (g_runN (As := []) (rest := []) (n := 0) hx hb hml hown hE2 hT (c_X7_init l G b x) gM_X7_init (List.mem_of_getElem? (i := 5) rfl) gi_X7_init rfl ⟨(zZ 0 _ rfl), hsz⟩ rfl hl.1 ⟨rfl, rfl⟩ ⟨Nat.le_of_ble_eq_true rfl, Nat.le_of_ble_eq_true rfl⟩ ⟨Nat.le_of_ble_eq_true rfl, Nat.le_of_ble_eq_true rfl⟩ rfl (Nat.le_of_ble_eq_true rfl) dX4_init_1) hS (fun q hq => hq) (fun H9 locs q10 k11 hS => ?_)
  obtain ⟨y1, y2⟩ := q10
  have zZ : gSg G b ([x]) H9 := gSg_1 y1
  have hsz : H9.size = b + 1 := y2
  rw [← hQ]
  exact g_vret hx hb hr hlk hS dX4_init_4 ⟨zZ 0 _ rfl, hsz⟩

set_option maxHeartbeats 4000000 in
set_option maxRecDepth 100000 in
theorem c_X3_init (l : Launch) (G : gW) (b : Nat) (x : va_E) : gCN2 l yX3_init cX3_init 1 3 64 0 0 G [.ref b] (fun H => gAt G b x H ∧ H.size = b + 1) (fun H => gAt G b x H ∧ H.size = b + 1) (fun q => b ≤ q) := by
  refine g_start2 (by decide) (Nat.le_of_ble_eq_true rfl) ?_
  intro pp_ ee_ s mm_ aa_ below meth cc_ ls Q hQ hX hE2 hP hl
  obtain ⟨hx, hb, hr, hml, hown, hT, hlk, hnm⟩ := hX
  have hE := hE2.1
  have hK := hE.2.1
  obtain ⟨zZ0, hsz⟩ := hP
  have hS : va_S (fun q => b ≤ q) s.heap s.heap [] := va_S.rf
  have hl : lv_has ls 1 [(0, .ref b)] := hl
  have zZ : gSg G b ([x]) s.heap := gSg_1 zZ0
  refine lv_aload_n hx hb dX3_init_0 rfl (lv_at hl 0 rfl) ?_
  refine g_kn (g_runN (As := []) (rest := []) (n := 0) hx hb hml hown hE2 hT (c_X2_init l G b x) gM_X2_init (List.mem_of_getElem? (i := 4) rfl) gi_X2_init rfl ⟨(zZ 0 _ rfl), hsz⟩ rfl hl.1 ⟨rfl, rfl⟩ ⟨Nat.le_of_ble_eq_true rfl, Nat.le_of_ble_eq_true rfl⟩ ⟨Nat.le_of_ble_eq_true rfl, Nat.le_of_ble_eq_true rfl⟩ rfl (Nat.le_of_ble_eq_true rfl) dX3_init_1) hS (fun q hq => hq) (fun H9 locs q10 k11 hS => ?_)
  obtain ⟨y1, y2⟩ := q10
  have zZ : gSg G b ([x]) H9 := gSg_1 y1
  have hsz : H9.size = b + 1 := y2
  rw [← hQ]
  exact g_vret hx hb hr hlk hS dX3_init_4 ⟨zZ 0 _ rfl, hsz⟩

set_option maxHeartbeats 4000000 in
set_option maxRecDepth 100000 in
theorem c_X6_init (l : Launch) (G : gW) (b : Nat) (x : va_E) : gCN2 l yX6_init cX6_init 1 3 64 0 0 G [.ref b] (fun H => gAt G b x H ∧ H.size = b + 1) (fun H => gAt G b x H ∧ H.size = b + 1) (fun q => b ≤ q) := by
  refine g_start2 (by decide) (Nat.le_of_ble_eq_true rfl) ?_
  intro pp_ ee_ s mm_ aa_ below meth cc_ ls Q hQ hX hE2 hP hl
  obtain ⟨hx, hb, hr, hml, hown, hT, hlk, hnm⟩ := hX
  have hE := hE2.1
  have hK := hE.2.1
  obtain ⟨zZ0, hsz⟩ := hP
  have hS : va_S (fun q => b ≤ q) s.heap s.heap [] := va_S.rf
  have hl : lv_has ls 1 [(0, .ref b)] := hl
  have zZ : gSg G b ([x]) s.heap := gSg_1 zZ0
  refine lv_aload_n hx hb dX6_init_0 rfl (lv_at hl 0 rfl) ?_
  refine g_kn (g_runN (As := []) (rest := []) (n := 0) hx hb hml hown hE2 hT (c_X1_init l G b x) gM_X1_init (List.mem_of_getElem? (i := 6) rfl) gi_X1_init rfl ⟨(zZ 0 _ rfl), hsz⟩ rfl hl.1 ⟨rfl, rfl⟩ ⟨Nat.le_of_ble_eq_true rfl, Nat.le_of_ble_eq_true rfl⟩ ⟨Nat.le_of_ble_eq_true rfl, Nat.le_of_ble_eq_true rfl⟩ rfl (Nat.le_of_ble_eq_true rfl) dX6_init_1) hS (fun q hq => hq) (fun H9 locs q10 k11 hS => ?_)
  obtain ⟨y1, y2⟩ := q10
  have zZ : gSg G b ([x]) H9 := gSg_1 y1
  have hsz : H9.size = b + 1 := y2
  rw [← hQ]
  exact g_vret hx hb hr hlk hS dX6_init_4 ⟨zZ 0 _ rfl, hsz⟩

set_option maxHeartbeats 4000000 in
set_option maxRecDepth 100000 in
theorem c_X10_init (l : Launch) (G : gW) (b : Nat) (x : va_E) : gCN2 l yX10_init cX10_init 1 3 64 0 0 G [.ref b] (fun H => gAt G b x H ∧ H.size = b + 1) (fun H => gAt G b x H ∧ H.size = b + 1) (fun q => b ≤ q) := by
  refine g_start2 (by decide) (Nat.le_of_ble_eq_true rfl) ?_
  intro pp_ ee_ s mm_ aa_ below meth cc_ ls Q hQ hX hE2 hP hl
  obtain ⟨hx, hb, hr, hml, hown, hT, hlk, hnm⟩ := hX
  have hE := hE2.1
  have hK := hE.2.1
  obtain ⟨zZ0, hsz⟩ := hP
  have hS : va_S (fun q => b ≤ q) s.heap s.heap [] := va_S.rf
  have hl : lv_has ls 1 [(0, .ref b)] := hl
  have zZ : gSg G b ([x]) s.heap := gSg_1 zZ0
  refine lv_aload_n hx hb dX10_init_0 rfl (lv_at hl 0 rfl) ?_
  refine g_kn (g_runN (As := []) (rest := []) (n := 0) hx hb hml hown hE2 hT (c_X4_init l G b x) gM_X4_init (List.mem_of_getElem? (i := 15) rfl) gi_X4_init rfl ⟨(zZ 0 _ rfl), hsz⟩ rfl hl.1 ⟨rfl, rfl⟩ ⟨Nat.le_of_ble_eq_true rfl, Nat.le_of_ble_eq_true rfl⟩ ⟨Nat.le_of_ble_eq_true rfl, Nat.le_of_ble_eq_true rfl⟩ rfl (Nat.le_of_ble_eq_true rfl) dX10_init_1) hS (fun q hq => hq) (fun H9 locs q10 k11 hS => ?_)
  obtain ⟨y1, y2⟩ := q10
  have zZ : gSg G b ([x]) H9 := gSg_1 y1
  have hsz : H9.size = b + 1 := y2
  rw [← hQ]
  exact g_vret hx hb hr hlk hS dX10_init_4 ⟨zZ 0 _ rfl, hsz⟩

set_option maxHeartbeats 4000000 in
set_option maxRecDepth 100000 in
theorem c_X0_init (l : Launch) (G : gW) (b : Nat) : gCN2 l yX0_init cX0_init 1 1 24 1 20 G [.ref b] (fun H => gAt G b (.inr (0, [.null, .int 0, .int 0, .int 0])) H ∧ H.size = b + 1) (fun H => gSg G b (gLA G b (fun _ _ => 0)) H ∧ H.size = b + 2) (fun q => b ≤ q) := by
  refine g_start2 (by decide) (Nat.le_of_ble_eq_true rfl) ?_
  intro pp_ ee_ s mm_ aa_ below meth cc_ ls Q hQ hX hE2 hP hl
  obtain ⟨hx, hb, hr, hml, hown, hT, hlk, hnm⟩ := hX
  have hE := hE2.1
  have hK := hE.2.1
  obtain ⟨zZ0, hsz⟩ := hP
  have hS : va_S (fun q => b ≤ q) s.heap s.heap [] := va_S.rf
  have hl : lv_has ls 1 [(0, .ref b)] := hl
  have zZ : gSg G b ([.inr (0, [.null, .int 0, .int 0, .int 0])]) s.heap := gSg_1 zZ0
  refine lv_aload_n hx hb dX0_init_0 rfl (lv_at hl 0 rfl) ?_
  refine g_objI hx hb hml hl.1 hown hT gm_X0_3 (Nat.le_of_ble_eq_true rfl) (Nat.le_of_ble_eq_true rfl) dX0_init_1 ?_
  refine lv_aload_n hx hb dX0_init_4 rfl (lv_at hl 0 rfl) ?_
  refine lv_bipush (v := 20) hx hb dX0_init_5 (by decide) ?_
  refine g_newa 0 (atype := .int) (cA := G.2.1 0) (N := 20) (b := b + 1) (a0 := (20, .inl (fun _ => 0))) hx hb hT hK hS gx_23 rfl (fun h => h) rfl (by decide) (by decide) (Nat.le_of_ble_eq_true rfl) (Nat.le_of_ble_eq_true rfl) (Nat.le_of_ble_eq_true rfl) hsz dX0_init_7 (fun H17 c18 zz19 oo20 hS => ?_)
  have zZ := gSg_kept zZ (fun k hk => oo20 _ (by simp only [List.length_cons, List.length_nil] at hk; omega))
  have zZ : gSg G b ([.inr (0, [.null, .int 0, .int 0, .int 0]), .inl (G.2.1 0, 20, .inl (fun _ => 0))]) H17 := gSg_app zZ (gSg_1 c18)
  have hsz : H17.size = b + 2 := zz19
  refine g_putF (T := TX0) (ci := 0) (N := 4) (ty0 := tyX0) hx hb hown hK hS (gY_X0 hT) tyX0_ok nmX0 rfl (zZ 0 _ rfl) 0 (by decide) (hT _ gf_X0_9) rfl hnm rfl rfl rfl (Nat.le_of_ble_eq_true rfl) (by omega) dX0_init_9 (fun H21 locs c22 oq hS => ?_)
  have zZ : gSg G b ([.inr (0, [.ref (b + 1), .int 0, .int 0, .int 0]), .inl (G.2.1 0, 20, .inl (fun _ => 0))]) H21 := gSg_set zZ 0 c22 oq
  have hsz := gSz oq (va_at.lt c22) (by rw [hsz]; omega) hsz
  rw [← hQ]
  exact g_vret hx hb hr hlk hS dX0_init_12 ⟨zZ, hsz⟩

set_option maxHeartbeats 4000000 in
set_option maxRecDepth 100000 in
theorem c_X8_init_5 (l : Launch) (G : gW) (b : Nat) : gCN2 l yX8_init cX8_init 2 1 24 3 15 G [.ref b, .int 5] (fun H => gAt G b (.inr (8, [.null, .null, .null, .int 0])) H ∧ H.size = b + 1) (fun H => gSg G b [.inr (8, [.ref (b + 1), .ref (b + 2), .ref (b + 3), .int 0]), .inl (G.2.1 0, 5, .inl (fun _ => 0)), .inl (G.2.1 0, 5, .inl (fun _ => 0)), .inl (G.2.1 0, 5, .inl (fun _ => 0))] H ∧ H.size = b + 4) (fun q => b ≤ q) := by
  refine g_start2 (by decide) (Nat.le_of_ble_eq_true rfl) ?_
  intro pp_ ee_ s mm_ aa_ below meth cc_ ls Q hQ hX hE2 hP hl
  obtain ⟨hx, hb, hr, hml, hown, hT, hlk, hnm⟩ := hX
  have hE := hE2.1
  have hK := hE.2.1
  obtain ⟨zZ0, hsz⟩ := hP
  have hS : va_S (fun q => b ≤ q) s.heap s.heap [] := va_S.rf
  have hl : lv_has ls 2 [(0, .ref b), (1, .int 5)] := hl
  have zZ : gSg G b ([.inr (8, [.null, .null, .null, .int 0])]) s.heap := gSg_1 zZ0
  refine lv_aload_n hx hb dX8_init_0 rfl (lv_at hl 0 rfl) ?_
  refine g_objI hx hb hml hl.1 hown hT gm_X8_3 (Nat.le_of_ble_eq_true rfl) (Nat.le_of_ble_eq_true rfl) dX8_init_1 ?_
  refine lv_aload_n hx hb dX8_init_4 rfl (lv_at hl 0 rfl) ?_
  refine lv_iload_n hx hb dX8_init_5 rfl (lv_at hl 1 rfl) ?_
  refine g_newa 0 (atype := .int) (cA := G.2.1 0) (N := 5) (b := b + 1) (a0 := (5, .inl (fun _ => 0))) hx hb hT hK hS gx_23 rfl (fun h => h) rfl (by decide) (by decide) (Nat.le_of_ble_eq_true rfl) (Nat.le_of_ble_eq_true rfl) (Nat.le_of_ble_eq_true rfl) hsz dX8_init_6 (fun H17 c18 zz19 oo20 hS => ?_)
  have zZ := gSg_kept zZ (fun k hk => oo20 _ (by simp only [List.length_cons, List.length_nil] at hk; omega))
  have zZ : gSg G b ([.inr (8, [.null, .null, .null, .int 0]), .inl (G.2.1 0, 5, .inl (fun _ => 0))]) H17 := gSg_app zZ (gSg_1 c18)
  have hsz : H17.size = b + 2 := zz19
  refine g_putF (T := TX8) (ci := 8) (N := 4) (ty0 := tyX8) hx hb hown hK hS (gY_X8 hT) tyX8_ok nmX8 rfl (zZ 0 _ rfl) 0 (by decide) (hT _ gf_X8_9) rfl hnm rfl rfl rfl (Nat.le_of_ble_eq_true rfl) (by omega) dX8_init_8 (fun H21 locs c22 oq hS => ?_)
  have zZ : gSg G b ([.inr (8, [.ref (b + 1), .null, .null, .int 0]), .inl (G.2.1 0, 5, .inl (fun _ => 0))]) H21 := gSg_set zZ 0 c22 oq
  have hsz := gSz oq (va_at.lt c22) (by rw [hsz]; omega) hsz
  refine lv_aload_n hx hb dX8_init_11 rfl (lv_at hl 0 rfl) ?_
  refine lv_iload_n hx hb dX8_init_12 rfl (lv_at hl 1 rfl) ?_
  refine g_newa 0 (atype := .int) (cA := G.2.1 0) (N := 5) (b := b + 2) (a0 := (5, .inl (fun _ => 0))) hx hb hT hK hS gx_23 rfl (fun h => h) rfl (by decide) (by decide) (Nat.le_of_ble_eq_true rfl) (Nat.le_of_ble_eq_true rfl) (Nat.le_of_ble_eq_true rfl) hsz dX8_init_13 (fun H33 c34 zz35 oo36 hS => ?_)
  have zZ := gSg_kept zZ (fun k hk => oo36 _ (by simp only [List.length_cons, List.length_nil] at hk; omega))
  have zZ : gSg G b ([.inr (8, [.ref (b + 1), .null, .null, .int 0]), .inl (G.2.1 0, 5, .inl (fun _ => 0)), .inl (G.2.1 0, 5, .inl (fun _ => 0))]) H33 := gSg_app zZ (gSg_1 c34)
  have hsz : H33.size = b + 3 := zz35
  refine g_putF (T := TX8) (ci := 8) (N := 4) (ty0 := tyX8) hx hb hown hK hS (gY_X8 hT) tyX8_ok nmX8 rfl (zZ 0 _ rfl) 1 (by decide) (hT _ gf_X8_15) rfl hnm rfl rfl rfl (Nat.le_of_ble_eq_true rfl) (by omega) dX8_init_15 (fun H37 locs c38 oq hS => ?_)
  have zZ : gSg G b ([.inr (8, [.ref (b + 1), .ref (b + 2), .null, .int 0]), .inl (G.2.1 0, 5, .inl (fun _ => 0)), .inl (G.2.1 0, 5, .inl (fun _ => 0))]) H37 := gSg_set zZ 0 c38 oq
  have hsz := gSz oq (va_at.lt c38) (by rw [hsz]; omega) hsz
  refine lv_aload_n hx hb dX8_init_18 rfl (lv_at hl 0 rfl) ?_
  refine lv_iload_n hx hb dX8_init_19 rfl (lv_at hl 1 rfl) ?_
  refine g_newa 0 (atype := .int) (cA := G.2.1 0) (N := 5) (b := b + 3) (a0 := (5, .inl (fun _ => 0))) hx hb hT hK hS gx_23 rfl (fun h => h) rfl (by decide) (by decide) (Nat.le_of_ble_eq_true rfl) (Nat.le_of_ble_eq_true rfl) (Nat.le_of_ble_eq_true rfl) hsz dX8_init_20 (fun H49 c50 zz51 oo52 hS => ?_)
  have zZ := gSg_kept zZ (fun k hk => oo52 _ (by simp only [List.length_cons, List.length_nil] at hk; omega))
  have zZ : gSg G b ([.inr (8, [.ref (b + 1), .ref (b + 2), .null, .int 0]), .inl (G.2.1 0, 5, .inl (fun _ => 0)), .inl (G.2.1 0, 5, .inl (fun _ => 0)), .inl (G.2.1 0, 5, .inl (fun _ => 0))]) H49 := gSg_app zZ (gSg_1 c50)
  have hsz : H49.size = b + 4 := zz51
  refine g_putF (T := TX8) (ci := 8) (N := 4) (ty0 := tyX8) hx hb hown hK hS (gY_X8 hT) tyX8_ok nmX8 rfl (zZ 0 _ rfl) 2 (by decide) (hT _ gf_X8_18) rfl hnm rfl rfl rfl (Nat.le_of_ble_eq_true rfl) (by omega) dX8_init_22 (fun H53 locs c54 oq hS => ?_)
  have zZ : gSg G b ([.inr (8, [.ref (b + 1), .ref (b + 2), .ref (b + 3), .int 0]), .inl (G.2.1 0, 5, .inl (fun _ => 0)), .inl (G.2.1 0, 5, .inl (fun _ => 0)), .inl (G.2.1 0, 5, .inl (fun _ => 0))]) H53 := gSg_set zZ 0 c54 oq
  have hsz := gSz oq (va_at.lt c54) (by rw [hsz]; omega) hsz
  rw [← hQ]
  exact g_vret hx hb hr hlk hS dX8_init_25 ⟨zZ, hsz⟩

set_option maxHeartbeats 4000000 in
set_option maxRecDepth 100000 in
theorem c_X8_init_10 (l : Launch) (G : gW) (b : Nat) : gCN2 l yX8_init cX8_init 2 1 24 3 30 G [.ref b, .int 10] (fun H => gAt G b (.inr (8, [.null, .null, .null, .int 0])) H ∧ H.size = b + 1) (fun H => gSg G b [.inr (8, [.ref (b + 1), .ref (b + 2), .ref (b + 3), .int 0]), .inl (G.2.1 0, 10, .inl (fun _ => 0)), .inl (G.2.1 0, 10, .inl (fun _ => 0)), .inl (G.2.1 0, 10, .inl (fun _ => 0))] H ∧ H.size = b + 4) (fun q => b ≤ q) := by
  refine g_start2 (by decide) (Nat.le_of_ble_eq_true rfl) ?_
  intro pp_ ee_ s mm_ aa_ below meth cc_ ls Q hQ hX hE2 hP hl
  obtain ⟨hx, hb, hr, hml, hown, hT, hlk, hnm⟩ := hX
  have hE := hE2.1
  have hK := hE.2.1
  obtain ⟨zZ0, hsz⟩ := hP
  have hS : va_S (fun q => b ≤ q) s.heap s.heap [] := va_S.rf
  have hl : lv_has ls 2 [(0, .ref b), (1, .int 10)] := hl
  have zZ : gSg G b ([.inr (8, [.null, .null, .null, .int 0])]) s.heap := gSg_1 zZ0
  refine lv_aload_n hx hb dX8_init_0 rfl (lv_at hl 0 rfl) ?_
  refine g_objI hx hb hml hl.1 hown hT gm_X8_3 (Nat.le_of_ble_eq_true rfl) (Nat.le_of_ble_eq_true rfl) dX8_init_1 ?_
  refine lv_aload_n hx hb dX8_init_4 rfl (lv_at hl 0 rfl) ?_
  refine lv_iload_n hx hb dX8_init_5 rfl (lv_at hl 1 rfl) ?_
  refine g_newa 0 (atype := .int) (cA := G.2.1 0) (N := 10) (b := b + 1) (a0 := (10, .inl (fun _ => 0))) hx hb hT hK hS gx_23 rfl (fun h => h) rfl (by decide) (by decide) (Nat.le_of_ble_eq_true rfl) (Nat.le_of_ble_eq_true rfl) (Nat.le_of_ble_eq_true rfl) hsz dX8_init_6 (fun H17 c18 zz19 oo20 hS => ?_)
  have zZ := gSg_kept zZ (fun k hk => oo20 _ (by simp only [List.length_cons, List.length_nil] at hk; omega))
  have zZ : gSg G b ([.inr (8, [.null, .null, .null, .int 0]), .inl (G.2.1 0, 10, .inl (fun _ => 0))]) H17 := gSg_app zZ (gSg_1 c18)
  have hsz : H17.size = b + 2 := zz19
  refine g_putF (T := TX8) (ci := 8) (N := 4) (ty0 := tyX8) hx hb hown hK hS (gY_X8 hT) tyX8_ok nmX8 rfl (zZ 0 _ rfl) 0 (by decide) (hT _ gf_X8_9) rfl hnm rfl rfl rfl (Nat.le_of_ble_eq_true rfl) (by omega) dX8_init_8 (fun H21 locs c22 oq hS => ?_)
  have zZ : gSg G b ([.inr (8, [.ref (b + 1), .null, .null, .int 0]), .inl (G.2.1 0, 10, .inl (fun _ => 0))]) H21 := gSg_set zZ 0 c22 oq
  have hsz := gSz oq (va_at.lt c22) (by rw [hsz]; omega) hsz
  refine lv_aload_n hx hb dX8_init_11 rfl (lv_at hl 0 rfl) ?_
  refine lv_iload_n hx hb dX8_init_12 rfl (lv_at hl 1 rfl) ?_
  refine g_newa 0 (atype := .int) (cA := G.2.1 0) (N := 10) (b := b + 2) (a0 := (10, .inl (fun _ => 0))) hx hb hT hK hS gx_23 rfl (fun h => h) rfl (by decide) (by decide) (Nat.le_of_ble_eq_true rfl) (Nat.le_of_ble_eq_true rfl) (Nat.le_of_ble_eq_true rfl) hsz dX8_init_13 (fun H33 c34 zz35 oo36 hS => ?_)
  have zZ := gSg_kept zZ (fun k hk => oo36 _ (by simp only [List.length_cons, List.length_nil] at hk; omega))
  have zZ : gSg G b ([.inr (8, [.ref (b + 1), .null, .null, .int 0]), .inl (G.2.1 0, 10, .inl (fun _ => 0)), .inl (G.2.1 0, 10, .inl (fun _ => 0))]) H33 := gSg_app zZ (gSg_1 c34)
  have hsz : H33.size = b + 3 := zz35
  refine g_putF (T := TX8) (ci := 8) (N := 4) (ty0 := tyX8) hx hb hown hK hS (gY_X8 hT) tyX8_ok nmX8 rfl (zZ 0 _ rfl) 1 (by decide) (hT _ gf_X8_15) rfl hnm rfl rfl rfl (Nat.le_of_ble_eq_true rfl) (by omega) dX8_init_15 (fun H37 locs c38 oq hS => ?_)
  have zZ : gSg G b ([.inr (8, [.ref (b + 1), .ref (b + 2), .null, .int 0]), .inl (G.2.1 0, 10, .inl (fun _ => 0)), .inl (G.2.1 0, 10, .inl (fun _ => 0))]) H37 := gSg_set zZ 0 c38 oq
  have hsz := gSz oq (va_at.lt c38) (by rw [hsz]; omega) hsz
  refine lv_aload_n hx hb dX8_init_18 rfl (lv_at hl 0 rfl) ?_
  refine lv_iload_n hx hb dX8_init_19 rfl (lv_at hl 1 rfl) ?_
  refine g_newa 0 (atype := .int) (cA := G.2.1 0) (N := 10) (b := b + 3) (a0 := (10, .inl (fun _ => 0))) hx hb hT hK hS gx_23 rfl (fun h => h) rfl (by decide) (by decide) (Nat.le_of_ble_eq_true rfl) (Nat.le_of_ble_eq_true rfl) (Nat.le_of_ble_eq_true rfl) hsz dX8_init_20 (fun H49 c50 zz51 oo52 hS => ?_)
  have zZ := gSg_kept zZ (fun k hk => oo52 _ (by simp only [List.length_cons, List.length_nil] at hk; omega))
  have zZ : gSg G b ([.inr (8, [.ref (b + 1), .ref (b + 2), .null, .int 0]), .inl (G.2.1 0, 10, .inl (fun _ => 0)), .inl (G.2.1 0, 10, .inl (fun _ => 0)), .inl (G.2.1 0, 10, .inl (fun _ => 0))]) H49 := gSg_app zZ (gSg_1 c50)
  have hsz : H49.size = b + 4 := zz51
  refine g_putF (T := TX8) (ci := 8) (N := 4) (ty0 := tyX8) hx hb hown hK hS (gY_X8 hT) tyX8_ok nmX8 rfl (zZ 0 _ rfl) 2 (by decide) (hT _ gf_X8_18) rfl hnm rfl rfl rfl (Nat.le_of_ble_eq_true rfl) (by omega) dX8_init_22 (fun H53 locs c54 oq hS => ?_)
  have zZ : gSg G b ([.inr (8, [.ref (b + 1), .ref (b + 2), .ref (b + 3), .int 0]), .inl (G.2.1 0, 10, .inl (fun _ => 0)), .inl (G.2.1 0, 10, .inl (fun _ => 0)), .inl (G.2.1 0, 10, .inl (fun _ => 0))]) H53 := gSg_set zZ 0 c54 oq
  have hsz := gSz oq (va_at.lt c54) (by rw [hsz]; omega) hsz
  rw [← hQ]
  exact g_vret hx hb hr hlk hS dX8_init_25 ⟨zZ, hsz⟩

set_option maxHeartbeats 4000000 in
set_option maxRecDepth 100000 in
theorem c_X8_init_8 (l : Launch) (G : gW) (b : Nat) : gCN2 l yX8_init cX8_init 2 1 24 3 24 G [.ref b, .int 8] (fun H => gAt G b (.inr (8, [.null, .null, .null, .int 0])) H ∧ H.size = b + 1) (fun H => gSg G b [.inr (8, [.ref (b + 1), .ref (b + 2), .ref (b + 3), .int 0]), .inl (G.2.1 0, 8, .inl (fun _ => 0)), .inl (G.2.1 0, 8, .inl (fun _ => 0)), .inl (G.2.1 0, 8, .inl (fun _ => 0))] H ∧ H.size = b + 4) (fun q => b ≤ q) := by
  refine g_start2 (by decide) (Nat.le_of_ble_eq_true rfl) ?_
  intro pp_ ee_ s mm_ aa_ below meth cc_ ls Q hQ hX hE2 hP hl
  obtain ⟨hx, hb, hr, hml, hown, hT, hlk, hnm⟩ := hX
  have hE := hE2.1
  have hK := hE.2.1
  obtain ⟨zZ0, hsz⟩ := hP
  have hS : va_S (fun q => b ≤ q) s.heap s.heap [] := va_S.rf
  have hl : lv_has ls 2 [(0, .ref b), (1, .int 8)] := hl
  have zZ : gSg G b ([.inr (8, [.null, .null, .null, .int 0])]) s.heap := gSg_1 zZ0
  refine lv_aload_n hx hb dX8_init_0 rfl (lv_at hl 0 rfl) ?_
  refine g_objI hx hb hml hl.1 hown hT gm_X8_3 (Nat.le_of_ble_eq_true rfl) (Nat.le_of_ble_eq_true rfl) dX8_init_1 ?_
  refine lv_aload_n hx hb dX8_init_4 rfl (lv_at hl 0 rfl) ?_
  refine lv_iload_n hx hb dX8_init_5 rfl (lv_at hl 1 rfl) ?_
  refine g_newa 0 (atype := .int) (cA := G.2.1 0) (N := 8) (b := b + 1) (a0 := (8, .inl (fun _ => 0))) hx hb hT hK hS gx_23 rfl (fun h => h) rfl (by decide) (by decide) (Nat.le_of_ble_eq_true rfl) (Nat.le_of_ble_eq_true rfl) (Nat.le_of_ble_eq_true rfl) hsz dX8_init_6 (fun H17 c18 zz19 oo20 hS => ?_)
  have zZ := gSg_kept zZ (fun k hk => oo20 _ (by simp only [List.length_cons, List.length_nil] at hk; omega))
  have zZ : gSg G b ([.inr (8, [.null, .null, .null, .int 0]), .inl (G.2.1 0, 8, .inl (fun _ => 0))]) H17 := gSg_app zZ (gSg_1 c18)
  have hsz : H17.size = b + 2 := zz19
  refine g_putF (T := TX8) (ci := 8) (N := 4) (ty0 := tyX8) hx hb hown hK hS (gY_X8 hT) tyX8_ok nmX8 rfl (zZ 0 _ rfl) 0 (by decide) (hT _ gf_X8_9) rfl hnm rfl rfl rfl (Nat.le_of_ble_eq_true rfl) (by omega) dX8_init_8 (fun H21 locs c22 oq hS => ?_)
  have zZ : gSg G b ([.inr (8, [.ref (b + 1), .null, .null, .int 0]), .inl (G.2.1 0, 8, .inl (fun _ => 0))]) H21 := gSg_set zZ 0 c22 oq
  have hsz := gSz oq (va_at.lt c22) (by rw [hsz]; omega) hsz
  refine lv_aload_n hx hb dX8_init_11 rfl (lv_at hl 0 rfl) ?_
  refine lv_iload_n hx hb dX8_init_12 rfl (lv_at hl 1 rfl) ?_
  refine g_newa 0 (atype := .int) (cA := G.2.1 0) (N := 8) (b := b + 2) (a0 := (8, .inl (fun _ => 0))) hx hb hT hK hS gx_23 rfl (fun h => h) rfl (by decide) (by decide) (Nat.le_of_ble_eq_true rfl) (Nat.le_of_ble_eq_true rfl) (Nat.le_of_ble_eq_true rfl) hsz dX8_init_13 (fun H33 c34 zz35 oo36 hS => ?_)
  have zZ := gSg_kept zZ (fun k hk => oo36 _ (by simp only [List.length_cons, List.length_nil] at hk; omega))
  have zZ : gSg G b ([.inr (8, [.ref (b + 1), .null, .null, .int 0]), .inl (G.2.1 0, 8, .inl (fun _ => 0)), .inl (G.2.1 0, 8, .inl (fun _ => 0))]) H33 := gSg_app zZ (gSg_1 c34)
  have hsz : H33.size = b + 3 := zz35
  refine g_putF (T := TX8) (ci := 8) (N := 4) (ty0 := tyX8) hx hb hown hK hS (gY_X8 hT) tyX8_ok nmX8 rfl (zZ 0 _ rfl) 1 (by decide) (hT _ gf_X8_15) rfl hnm rfl rfl rfl (Nat.le_of_ble_eq_true rfl) (by omega) dX8_init_15 (fun H37 locs c38 oq hS => ?_)
  have zZ : gSg G b ([.inr (8, [.ref (b + 1), .ref (b + 2), .null, .int 0]), .inl (G.2.1 0, 8, .inl (fun _ => 0)), .inl (G.2.1 0, 8, .inl (fun _ => 0))]) H37 := gSg_set zZ 0 c38 oq
  have hsz := gSz oq (va_at.lt c38) (by rw [hsz]; omega) hsz
  refine lv_aload_n hx hb dX8_init_18 rfl (lv_at hl 0 rfl) ?_
  refine lv_iload_n hx hb dX8_init_19 rfl (lv_at hl 1 rfl) ?_
  refine g_newa 0 (atype := .int) (cA := G.2.1 0) (N := 8) (b := b + 3) (a0 := (8, .inl (fun _ => 0))) hx hb hT hK hS gx_23 rfl (fun h => h) rfl (by decide) (by decide) (Nat.le_of_ble_eq_true rfl) (Nat.le_of_ble_eq_true rfl) (Nat.le_of_ble_eq_true rfl) hsz dX8_init_20 (fun H49 c50 zz51 oo52 hS => ?_)
  have zZ := gSg_kept zZ (fun k hk => oo52 _ (by simp only [List.length_cons, List.length_nil] at hk; omega))
  have zZ : gSg G b ([.inr (8, [.ref (b + 1), .ref (b + 2), .null, .int 0]), .inl (G.2.1 0, 8, .inl (fun _ => 0)), .inl (G.2.1 0, 8, .inl (fun _ => 0)), .inl (G.2.1 0, 8, .inl (fun _ => 0))]) H49 := gSg_app zZ (gSg_1 c50)
  have hsz : H49.size = b + 4 := zz51
  refine g_putF (T := TX8) (ci := 8) (N := 4) (ty0 := tyX8) hx hb hown hK hS (gY_X8 hT) tyX8_ok nmX8 rfl (zZ 0 _ rfl) 2 (by decide) (hT _ gf_X8_18) rfl hnm rfl rfl rfl (Nat.le_of_ble_eq_true rfl) (by omega) dX8_init_22 (fun H53 locs c54 oq hS => ?_)
  have zZ : gSg G b ([.inr (8, [.ref (b + 1), .ref (b + 2), .ref (b + 3), .int 0]), .inl (G.2.1 0, 8, .inl (fun _ => 0)), .inl (G.2.1 0, 8, .inl (fun _ => 0)), .inl (G.2.1 0, 8, .inl (fun _ => 0))]) H53 := gSg_set zZ 0 c54 oq
  have hsz := gSz oq (va_at.lt c54) (by rw [hsz]; omega) hsz
  rw [← hQ]
  exact g_vret hx hb hr hlk hS dX8_init_25 ⟨zZ, hsz⟩

set_option maxHeartbeats 4000000 in
set_option maxRecDepth 100000 in
theorem c_J0_coder_7d493_z (l : Launch) (G : gW) (i : Nat) (hi8 : i < 8) (X : Heap) : gCI l yJ0_coder_7d493 cJ0_coder_7d493 1 .byte (gRm 0 0) G [.ref (G.2.2.1 i)] (fun H => gOld G H ∧ H = X) (fun r H => r = 0 ∧ H = X) (fun _ => False) := by
  refine g_start (by decide) (Nat.le_of_ble_eq_true rfl) ?_
  intro pp_ ee_ s mm_ aa_ below meth cc_ ls Q hQ hX hE hP hl
  obtain ⟨hx, hb, hr, hml, hown, hT, hlk, hnm⟩ := hX
  have hK := hE.2.1
  obtain ⟨hO, hX9⟩ := hP
  have hS : va_S (fun _ => False) s.heap s.heap [] := va_S.rf
  have hl : lv_has ls 1 [(0, .ref (G.2.2.1 i))] := hl
  have hJ := hE.2.2.2.2.2.2.now hO
  have hL6 := gLen_le i hi8
  refine va_gets (C := "java/lang/String") (n := "COMPACT_STRINGS") (d := "Z") (ref := "java/lang/String") (v := .int 1) hx hb hJ.2.1 hS hown (hT _ gf_J0_38) (fun _ h => h) dJ0_coder_7d493_0 ?_
  refine lv_if_eq (tgt := 13) hx hb dJ0_coder_7d493_3 (by decide) (fun c1 => ?_) (fun c1 => ?_)
  · exact absurd c1 (by decide)
  · refine lv_aload_n hx hb dJ0_coder_7d493_6 rfl (lv_at hl 0 rfl) ?_
    refine vk_getf (o := "java/lang/String") (n := "coder") (d := "B") (ref := "java/lang/String") (v := .int 0) hx hb (hJ.1.1 i hi8).2.1 hS hown (hT _ gf_J0_15) (fun _ h => h) dJ0_coder_7d493_7 ?_
    refine lv_goto (tgt := 14) hx hb dJ0_coder_7d493_10 (by decide) ?_
    rw [← hQ]
    exact g_zret hx hb hr hlk rfl hS dJ0_coder_7d493_14 ⟨rfl, hX9⟩

set_option maxHeartbeats 4000000 in
set_option maxRecDepth 100000 in
theorem c_J0_length_8abf5_z (l : Launch) (G : gW) (i : Nat) (hi8 : i < 8) (X : Heap) : gCI l yJ0_length_8abf5 cJ0_length_8abf5 1 .int (gRm 1 20) G [.ref (G.2.2.1 i)] (fun H => gOld G H ∧ H = X) (fun r H => r = nI (gLen.getD i 0) ∧ H = X) (fun _ => False) := by
  refine g_start (by decide) (Nat.le_of_ble_eq_true rfl) ?_
  intro pp_ ee_ s mm_ aa_ below meth cc_ ls Q hQ hX hE hP hl
  obtain ⟨hx, hb, hr, hml, hown, hT, hlk, hnm⟩ := hX
  have hK := hE.2.1
  obtain ⟨hO, hX9⟩ := hP
  have hS : va_S (fun _ => False) s.heap s.heap [] := va_S.rf
  have hl : lv_has ls 1 [(0, .ref (G.2.2.1 i))] := hl
  have hJ := hE.2.2.2.2.2.2.now hO
  have hL6 := gLen_le i hi8
  refine lv_aload_n hx hb dJ0_length_8abf5_0 rfl (lv_at hl 0 rfl) ?_
  refine vk_getf (o := "java/lang/String") (n := "value") (d := "[B") (ref := "java/lang/String") (v := .ref (G.2.2.1 (10 + i))) hx hb (hJ.1.1 i hi8).2.2.1 hS hown (hT _ gf_J0_9) (fun _ h => h) dJ0_length_8abf5_1 ?_
  refine va_tlen (v := nI (gLen.getD i 0)) hx hb (hJ.1.1 i hi8).2.2.2 hS rfl dJ0_length_8abf5_4 ?_
  refine lv_aload_n hx hb dJ0_length_8abf5_5 rfl (lv_at hl 0 rfl) ?_
  refine g_ki (g_runJ (rest := [.int (nI (gLen.getD i 0))]) hx hb hml hown hE hT (c_J0_coder_7d493_z l G i hi8 X) gM_J0_coder_7d493 gm_J0_335 gi_J0_coder_7d493 gs_RJ0_yJ0_coder_7d493_yJ0_coder_7d493 (gJ_recv hJ hi8 hO hS (fun _ h => h.elim) hE) ⟨gOld_S hO hS (fun _ h => h.elim), hX9⟩ rfl hl.1 ⟨rfl, rfl⟩ ⟨Nat.le_of_ble_eq_true rfl, Nat.le_of_ble_eq_true rfl⟩ ⟨Nat.zero_le _, Nat.zero_le _⟩ rfl (Nat.le_of_ble_eq_true rfl) dJ0_length_8abf5_6) hS (fun _ h => h.elim) (fun r4 H1 locs q2 k3 hS => ?_)
  obtain ⟨rfl, hX8⟩ := q2
  refine lv_ishr hx hb dJ0_length_8abf5_9 ?_
  rw [← hQ]
  exact g_iret hx hb hr hlk hS dJ0_length_8abf5_10 ⟨gShr0 _, hX8⟩

set_option maxHeartbeats 4000000 in
set_option maxRecDepth 100000 in
theorem c_X5_init (l : Launch) (G : gW) (b : Nat) (htG : G.2.2.2.size ≤ b) : gCN2 l yX5_init cX5_init 1 2 40 5 227 G [.ref b] (fun H => gOld G H ∧ gAt G b (.inr (5, [.null, .int 0, .int 0, .null, .int 0, .null, .null, .int 0, .null, .int 0])) H ∧ H.size = b + 1) (fun H => gSg G b (gLL G b gFl0) H ∧ H.size = b + 6) (fun q => b ≤ q) := by
  refine g_start2 (by decide) (Nat.le_of_ble_eq_true rfl) ?_
  intro pp_ ee_ s mm_ aa_ below meth cc_ ls Q hQ hX hE2 hP hl
  obtain ⟨hx, hb, hr, hml, hown, hT, hlk, hnm⟩ := hX
  have hE := hE2.1
  have hK := hE.2.1
  obtain ⟨hO, zZ0, hsz⟩ := hP
  have hS : va_S (fun q => b ≤ q) s.heap s.heap [] := va_S.rf
  have hl : lv_has ls 1 [(0, .ref b)] := hl
  have zZ : gSg G b ([.inr (5, [.null, .int 0, .int 0, .null, .int 0, .null, .null, .int 0, .null, .int 0])]) s.heap := gSg_1 zZ0
  have hJ := hE.2.2.2.2.2.2.now hO
  refine lv_aload_n hx hb dX5_init_0 rfl (lv_at hl 0 rfl) ?_
  refine g_objI hx hb hml hl.1 hown hT gm_X5_3 (Nat.le_of_ble_eq_true rfl) (Nat.le_of_ble_eq_true rfl) dX5_init_1 ?_
  refine lv_aload_n hx hb dX5_init_4 rfl (lv_at hl 0 rfl) ?_
  refine lv_bipush (v := 100) hx hb dX5_init_5 (by decide) ?_
  refine g_newa 1 (atype := .byte) (cA := G.2.1 1) (N := 100) (b := b + 1) (a0 := (100, .inl (fun _ => 0))) hx hb hT hK hS gx_19 rfl (fun h => h) rfl (by decide) (by decide) (Nat.le_of_ble_eq_true rfl) (Nat.le_of_ble_eq_true rfl) (Nat.le_of_ble_eq_true rfl) hsz dX5_init_7 (fun H17 c18 zz19 oo20 hS => ?_)
  have zZ := gSg_kept zZ (fun k hk => oo20 _ (by simp only [List.length_cons, List.length_nil] at hk; omega))
  have zZ : gSg G b ([.inr (5, [.null, .int 0, .int 0, .null, .int 0, .null, .null, .int 0, .null, .int 0]), .inl (G.2.1 1, 100, .inl (fun _ => 0))]) H17 := gSg_app zZ (gSg_1 c18)
  have hsz : H17.size = b + 2 := zz19
  refine g_putF (T := TX5) (ci := 5) (N := 10) (ty0 := tyX5) hx hb hown hK hS (gY_X5 hT) tyX5_ok nmX5 rfl (zZ 0 _ rfl) 0 (by decide) (hT _ gf_X5_9) rfl hnm rfl rfl rfl (Nat.le_of_ble_eq_true rfl) (by omega) dX5_init_9 (fun H21 locs c22 oq hS => ?_)
  have zZ : gSg G b ([.inr (5, [.ref (b + 1), .int 0, .int 0, .null, .int 0, .null, .null, .int 0, .null, .int 0]), .inl (G.2.1 1, 100, .inl (fun _ => 0))]) H21 := gSg_set zZ 0 c22 oq
  have hsz := gSz oq (va_at.lt c22) (by rw [hsz]; omega) hsz
  refine lv_aload_n hx hb dX5_init_12 rfl (lv_at hl 0 rfl) ?_
  refine lv_bipush (v := 100) hx hb dX5_init_13 (by decide) ?_
  refine g_newa 0 (atype := .int) (cA := G.2.1 0) (N := 100) (b := b + 2) (a0 := (100, .inl (fun _ => 0))) hx hb hT hK hS gx_23 rfl (fun h => h) rfl (by decide) (by decide) (Nat.le_of_ble_eq_true rfl) (Nat.le_of_ble_eq_true rfl) (Nat.le_of_ble_eq_true rfl) hsz dX5_init_15 (fun H33 c34 zz35 oo36 hS => ?_)
  have zZ := gSg_kept zZ (fun k hk => oo36 _ (by simp only [List.length_cons, List.length_nil] at hk; omega))
  have zZ : gSg G b ([.inr (5, [.ref (b + 1), .int 0, .int 0, .null, .int 0, .null, .null, .int 0, .null, .int 0]), .inl (G.2.1 1, 100, .inl (fun _ => 0)), .inl (G.2.1 0, 100, .inl (fun _ => 0))]) H33 := gSg_app zZ (gSg_1 c34)
  have hsz : H33.size = b + 3 := zz35
  refine g_putF (T := TX5) (ci := 5) (N := 10) (ty0 := tyX5) hx hb hown hK hS (gY_X5 hT) tyX5_ok nmX5 rfl (zZ 0 _ rfl) 3 (by decide) (hT _ gf_X5_15) rfl hnm rfl rfl rfl (Nat.le_of_ble_eq_true rfl) (by omega) dX5_init_17 (fun H37 locs c38 oq hS => ?_)
  have zZ : gSg G b ([.inr (5, [.ref (b + 1), .int 0, .int 0, .ref (b + 2), .int 0, .null, .null, .int 0, .null, .int 0]), .inl (G.2.1 1, 100, .inl (fun _ => 0)), .inl (G.2.1 0, 100, .inl (fun _ => 0))]) H37 := gSg_set zZ 0 c38 oq
  have hsz := gSz oq (va_at.lt c38) (by rw [hsz]; omega) hsz
  refine lv_aload_n hx hb dX5_init_20 rfl (lv_at hl 0 rfl) ?_
  refine lv_bipush (v := 10) hx hb dX5_init_21 (by decide) ?_
  refine g_newa 0 (atype := .int) (cA := G.2.1 0) (N := 10) (b := b + 3) (a0 := (10, .inl (fun _ => 0))) hx hb hT hK hS gx_23 rfl (fun h => h) rfl (by decide) (by decide) (Nat.le_of_ble_eq_true rfl) (Nat.le_of_ble_eq_true rfl) (Nat.le_of_ble_eq_true rfl) hsz dX5_init_23 (fun H49 c50 zz51 oo52 hS => ?_)
  have zZ := gSg_kept zZ (fun k hk => oo52 _ (by simp only [List.length_cons, List.length_nil] at hk; omega))
  have zZ : gSg G b ([.inr (5, [.ref (b + 1), .int 0, .int 0, .ref (b + 2), .int 0, .null, .null, .int 0, .null, .int 0]), .inl (G.2.1 1, 100, .inl (fun _ => 0)), .inl (G.2.1 0, 100, .inl (fun _ => 0)), .inl (G.2.1 0, 10, .inl (fun _ => 0))]) H49 := gSg_app zZ (gSg_1 c50)
  have hsz : H49.size = b + 4 := zz51
  refine g_putF (T := TX5) (ci := 5) (N := 10) (ty0 := tyX5) hx hb hown hK hS (gY_X5 hT) tyX5_ok nmX5 rfl (zZ 0 _ rfl) 5 (by decide) (hT _ gf_X5_19) rfl hnm rfl rfl rfl (Nat.le_of_ble_eq_true rfl) (by omega) dX5_init_25 (fun H53 locs c54 oq hS => ?_)
  have zZ : gSg G b ([.inr (5, [.ref (b + 1), .int 0, .int 0, .ref (b + 2), .int 0, .ref (b + 3), .null, .int 0, .null, .int 0]), .inl (G.2.1 1, 100, .inl (fun _ => 0)), .inl (G.2.1 0, 100, .inl (fun _ => 0)), .inl (G.2.1 0, 10, .inl (fun _ => 0))]) H53 := gSg_set zZ 0 c54 oq
  have hsz := gSz oq (va_at.lt c54) (by rw [hsz]; omega) hsz
  refine lv_aload_n hx hb dX5_init_28 rfl (lv_at hl 0 rfl) ?_
  refine lv_bipush (v := 11) hx hb dX5_init_29 (by decide) ?_
  refine g_newa 0 (atype := .int) (cA := G.2.1 0) (N := 11) (b := b + 4) (a0 := (11, .inl (fun _ => 0))) hx hb hT hK hS gx_23 rfl (fun h => h) rfl (by decide) (by decide) (Nat.le_of_ble_eq_true rfl) (Nat.le_of_ble_eq_true rfl) (Nat.le_of_ble_eq_true rfl) hsz dX5_init_31 (fun H65 c66 zz67 oo68 hS => ?_)
  have zZ := gSg_kept zZ (fun k hk => oo68 _ (by simp only [List.length_cons, List.length_nil] at hk; omega))
  have zZ : gSg G b ([.inr (5, [.ref (b + 1), .int 0, .int 0, .ref (b + 2), .int 0, .ref (b + 3), .null, .int 0, .null, .int 0]), .inl (G.2.1 1, 100, .inl (fun _ => 0)), .inl (G.2.1 0, 100, .inl (fun _ => 0)), .inl (G.2.1 0, 10, .inl (fun _ => 0)), .inl (G.2.1 0, 11, .inl (fun _ => 0))]) H65 := gSg_app zZ (gSg_1 c66)
  have hsz : H65.size = b + 5 := zz67
  refine g_putF (T := TX5) (ci := 5) (N := 10) (ty0 := tyX5) hx hb hown hK hS (gY_X5 hT) tyX5_ok nmX5 rfl (zZ 0 _ rfl) 6 (by decide) (hT _ gf_X5_22) rfl hnm rfl rfl rfl (Nat.le_of_ble_eq_true rfl) (by omega) dX5_init_33 (fun H69 locs c70 oq hS => ?_)
  have zZ : gSg G b ([.inr (5, [.ref (b + 1), .int 0, .int 0, .ref (b + 2), .int 0, .ref (b + 3), .ref (b + 4), .int 0, .null, .int 0]), .inl (G.2.1 1, 100, .inl (fun _ => 0)), .inl (G.2.1 0, 100, .inl (fun _ => 0)), .inl (G.2.1 0, 10, .inl (fun _ => 0)), .inl (G.2.1 0, 11, .inl (fun _ => 0))]) H69 := gSg_set zZ 0 c70 oq
  have hsz := gSz oq (va_at.lt c70) (by rw [hsz]; omega) hsz
  refine lv_aload_n hx hb dX5_init_36 rfl (lv_at hl 0 rfl) ?_
  refine va_ldcS (q := G.2.2.1 0) hx hb hown (hE.2.2.2.2.2.1 (RX5, 25, _, 0) (List.mem_of_getElem? (i := 0) rfl)) dX5_init_37 ?_
  have hO9 := gOld_S hO hS (fun q9 hq9 => Nat.le_trans htG hq9)
  refine g_ki (g_runJ (rest := [.ref b]) hx hb hml hown hE hT (c_J0_length_8abf5_z l G 0 (by decide) H69) gM_J0_length_8abf5 gm_X5_27 gi_J0_length_8abf5 gs_RJ0_yJ0_length_8abf5_yJ0_length_8abf5 (gJ_recv hJ (by decide) hO hS (fun q9 hq9 => Nat.le_trans htG hq9) hE) ⟨hO9, rfl⟩ rfl hl.1 ⟨rfl, rfl⟩ ⟨Nat.le_of_ble_eq_true rfl, Nat.le_of_ble_eq_true rfl⟩ ⟨Nat.le_of_ble_eq_true rfl, Nat.le_of_ble_eq_true rfl⟩ rfl (Nat.le_of_ble_eq_true rfl) dX5_init_39) hS (fun _ h => h.elim) (fun r84 H81 locs q82 k83 hS => ?_)
  obtain ⟨e9, hX9⟩ := q82
  have zZ := gSg_free zZ k83 (by intro k hk q; simp only [List.length_cons, List.length_nil] at hk; omega)
  subst e9
  rw [← hX9] at hsz
  rw [show (nI (gLen.getD 0 0) : Int32) = 6 from by decide]
  refine g_newa 0 (atype := .int) (cA := G.2.1 0) (N := 6) (b := b + 5) (a0 := (6, .inl (fun _ => 0))) hx hb hT hK hS gx_23 rfl (fun h => h) rfl (by decide) (by decide) (Nat.le_of_ble_eq_true rfl) (Nat.le_of_ble_eq_true rfl) (Nat.le_of_ble_eq_true rfl) hsz dX5_init_42 (fun H85 c86 zz87 oo88 hS => ?_)
  have zZ := gSg_kept zZ (fun k hk => oo88 _ (by simp only [List.length_cons, List.length_nil] at hk; omega))
  have zZ : gSg G b ([.inr (5, [.ref (b + 1), .int 0, .int 0, .ref (b + 2), .int 0, .ref (b + 3), .ref (b + 4), .int 0, .null, .int 0]), .inl (G.2.1 1, 100, .inl (fun _ => 0)), .inl (G.2.1 0, 100, .inl (fun _ => 0)), .inl (G.2.1 0, 10, .inl (fun _ => 0)), .inl (G.2.1 0, 11, .inl (fun _ => 0)), .inl (G.2.1 0, 6, .inl (fun _ => 0))]) H85 := gSg_app zZ (gSg_1 c86)
  have hsz : H85.size = b + 6 := zz87
  refine g_putF (T := TX5) (ci := 5) (N := 10) (ty0 := tyX5) hx hb hown hK hS (gY_X5 hT) tyX5_ok nmX5 rfl (zZ 0 _ rfl) 8 (by decide) (hT _ gf_X5_33) rfl hnm rfl rfl rfl (Nat.le_of_ble_eq_true rfl) (by omega) dX5_init_44 (fun H89 locs c90 oq hS => ?_)
  have zZ : gSg G b ([.inr (5, [.ref (b + 1), .int 0, .int 0, .ref (b + 2), .int 0, .ref (b + 3), .ref (b + 4), .int 0, .ref (b + 5), .int 0]), .inl (G.2.1 1, 100, .inl (fun _ => 0)), .inl (G.2.1 0, 100, .inl (fun _ => 0)), .inl (G.2.1 0, 10, .inl (fun _ => 0)), .inl (G.2.1 0, 11, .inl (fun _ => 0)), .inl (G.2.1 0, 6, .inl (fun _ => 0))]) H89 := gSg_set zZ 0 c90 oq
  have hsz := gSz oq (va_at.lt c90) (by rw [hsz]; omega) hsz
  refine lv_aload_n hx hb dX5_init_47 rfl (lv_at hl 0 rfl) ?_
  refine lv_iconst (v := 1) hx hb dX5_init_48 (by decide) ?_
  refine g_put (T := TX5) (ci := 5) (N := 10) (ty0 := tyX5) hx hb hown hK hS (gY_X5 hT) tyX5_ok nmX5 rfl (zZ 0 _ rfl) 9 (by decide) (hT _ gf_X5_36) rfl rfl rfl (Nat.le_of_ble_eq_true rfl) (by omega) dX5_init_49 (fun H105 locs c106 oq hS => ?_)
  have zZ : gSg G b ([.inr (5, [.ref (b + 1), .int 0, .int 0, .ref (b + 2), .int 0, .ref (b + 3), .ref (b + 4), .int 0, .ref (b + 5), .int 1]), .inl (G.2.1 1, 100, .inl (fun _ => 0)), .inl (G.2.1 0, 100, .inl (fun _ => 0)), .inl (G.2.1 0, 10, .inl (fun _ => 0)), .inl (G.2.1 0, 11, .inl (fun _ => 0)), .inl (G.2.1 0, 6, .inl (fun _ => 0))]) H105 := gSg_set zZ 0 c106 oq
  have hsz := gSz oq (va_at.lt c106) (by rw [hsz]; omega) hsz
  rw [← hQ]
  exact g_vret hx hb hr hlk hS dX5_init_52 ⟨zZ, hsz⟩
