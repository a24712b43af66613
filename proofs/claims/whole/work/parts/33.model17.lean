set_option maxHeartbeats 4000000 in
set_option maxRecDepth 100000 in
theorem c_X12_ran (l : Launch) (G : gW) (b : Nat) (π μ f : gPS) (g : Nat → Int64) (t : Nat) (ht : μ 4 1 = nI t) (htl : t ≤ 4000) (x : Int32) : gCV l yX12_ran cX12_ran 2 (gRm 0 0) G [.ref b, .int x] (fun H => gSg G b (gLM G b π μ f g) H) (fun H => gSg G b (gLM G b π (gTr1 μ x) f g) H) (fun q => b ≤ q ∧ q < b + 30) := by
  refine g_start (by decide) (Nat.le_of_ble_eq_true rfl) ?_
  intro pp_ ee_ s mm_ aa_ below meth cc_ ls Q hQ hX hE hP hl
  obtain ⟨hx, hb, hr, hml, hown, hT, hlk, hnm⟩ := hX
  have hK := hE.2.1
  have h1 := hP
  have hS : va_S (fun q => b ≤ q ∧ q < b + 30) s.heap s.heap [] := va_S.rf
  have hl : lv_has ls 2 [(0, .ref b), (1, .int x)] := hl
  refine lv_aload_n hx hb dX12_ran_0 rfl (lv_at hl 0 rfl) ?_
  refine g_get (v := .int (μ 4 1)) (T := TX12) (ci := 12) (N := 45) hx hb hown hK (gY_X12 hT) rfl (h1 0 _ rfl) 37 (by decide) (hT _ gf_X12_303) rfl dX12_ran_1 ?_
  refine lv_bipush (v := 20) hx hb dX12_ran_4 (by decide) ?_
  refine lv_icmp_ge (tgt := 19) hx hb dX12_ran_6 (by decide) (fun c1 => ?_) (fun c1 => ?_)
  · have c1 : 20 ≤ t := (gLe (a := 20) (b := t) rfl ht (by omega) (by omega)).mp c1
    refine lv_aload_n hx hb dX12_ran_19 rfl (lv_at hl 0 rfl) ?_
    refine lv_dup hx hb dX12_ran_20 rfl ?_
    refine g_get (v := .int (μ 4 1)) (T := TX12) (ci := 12) (N := 45) hx hb hown hK (gY_X12 hT) rfl (h1 0 _ rfl) 37 (by decide) (hT _ gf_X12_303) rfl dX12_ran_21 ?_
    refine lv_iconst (v := 1) hx hb dX12_ran_24 (by decide) ?_
    refine lv_iadd hx hb dX12_ran_25 ?_
    refine g_put (T := TX12) (ci := 12) (N := 45) (ty0 := tyX12) hx hb hown hK hS (gY_X12 hT) tyX12_ok nmX12 rfl (h1 0 _ rfl) 37 (by decide) (hT _ gf_X12_303) rfl rfl rfl (Nat.le_of_ble_eq_true rfl) (by omega) dX12_ran_26 (fun H2 locs c3 oq hS => ?_)
    have h1 : gSg G b (gLM G b π (gU μ 4 1 ((μ 4 1) + 1)) f g) H2 := gSg_set h1 0 c3 oq
    rw [← hQ]
    exact g_vret hx hb hr hlk hS dX12_ran_29 (by rw [show gTr1 μ x = gU μ 4 1 ((μ 4 1) + 1) from by rw [gTr1, if_neg (fun z => absurd ((gLt (y := 20) (b := 20) ht rfl (by omega) (by omega)).mp z) (by omega))]]; exact h1)
  · have c1 : ¬ 20 ≤ t := fun z => c1 ((gLe (a := 20) (b := t) rfl ht (by omega) (by omega)).mpr z)
    refine lv_aload_n hx hb dX12_ran_9 rfl (lv_at hl 0 rfl) ?_
    refine g_get (v := .ref (b + 24)) (T := TX12) (ci := 12) (N := 45) hx hb hown hK (gY_X12 hT) rfl (h1 0 _ rfl) 38 (by decide) (hT _ gf_X12_82) rfl dX12_ran_10 ?_
    refine lv_aload_n hx hb dX12_ran_13 rfl (lv_at hl 0 rfl) ?_
    refine g_get (v := .int (μ 4 1)) (T := TX12) (ci := 12) (N := 45) hx hb hown hK (gY_X12 hT) rfl (h1 0 _ rfl) 37 (by decide) (hT _ gf_X12_303) rfl dX12_ran_14 ?_
    refine lv_iload_n hx hb dX12_ran_17 rfl (lv_at hl 1 rfl) ?_
    refine g_is (j := t) hx hb hK hS (h1 24 _ rfl) ht (by omega) (Nat.le_of_ble_eq_true rfl) (by omega) dX12_ran_18 (fun H4 locs c5 oq hS => ?_)
    have h1 : gSg G b (gLM G b π (gU μ 1 t x) f g) H4 := gSg_set h1 24 c5 oq
    refine lv_aload_n hx hb dX12_ran_19 rfl (lv_at hl 0 rfl) ?_
    refine lv_dup hx hb dX12_ran_20 rfl ?_
    refine g_get (v := .int (μ 4 1)) (T := TX12) (ci := 12) (N := 45) hx hb hown hK (gY_X12 hT) rfl (h1 0 _ rfl) 37 (by decide) (hT _ gf_X12_303) rfl dX12_ran_21 ?_
    refine lv_iconst (v := 1) hx hb dX12_ran_24 (by decide) ?_
    refine lv_iadd hx hb dX12_ran_25 ?_
    refine g_put (T := TX12) (ci := 12) (N := 45) (ty0 := tyX12) hx hb hown hK hS (gY_X12 hT) tyX12_ok nmX12 rfl (h1 0 _ rfl) 37 (by decide) (hT _ gf_X12_303) rfl rfl rfl (Nat.le_of_ble_eq_true rfl) (by omega) dX12_ran_26 (fun H6 locs c7 oq hS => ?_)
    have h1 : gSg G b (gLM G b π (gU (gU μ 1 t x) 4 1 ((μ 4 1) + 1)) f g) H6 := gSg_set h1 0 c7 oq
    rw [← hQ]
    exact g_vret hx hb hr hlk hS dX12_ran_29 (by rw [show gTr1 μ x = gU (gU μ 1 t x) 4 1 ((μ 4 1) + 1) from by rw [gTr1, if_pos ((gLt (y := 20) (b := 20) ht rfl (by omega) (by omega)).mpr (by omega)), show (μ 4 1).toNatClampNeg = t from by rw [ht]; exact nI_clamp (by omega)]]; exact h1)

set_option maxHeartbeats 4000000 in
set_option maxRecDepth 100000 in
theorem c_X12_coos_0 (l : Launch) (G : gW) (b : Nat) (π μ f : gPS) (g : Nat → Int64) (t : Nat) (ht : μ 4 1 = nI t) (htl : t ≤ 3010) (p : Nat) (hp : p < 6)  (x : Int32) : gCI l yX12_coos cX12_coos 4 .int (gRm 1 21) G [.ref b, .int (nI p), .int 0, .int x] (fun H => gSg G b (gLM G b π μ f g) H) (fun r H => r = x + nI p ∧ gSg G b (gLM G b π (gTrs μ ([10])) f g) H) (fun q => b ≤ q ∧ q < b + 30) := by
  refine g_start (by decide) (Nat.le_of_ble_eq_true rfl) ?_
  intro pp_ ee_ s mm_ aa_ below meth cc_ ls Q hQ hX hE hP hl
  obtain ⟨hx, hb, hr, hml, hown, hT, hlk, hnm⟩ := hX
  have hK := hE.2.1
  have h1 := hP
  have hS : va_S (fun q => b ≤ q ∧ q < b + 30) s.heap s.heap [] := va_S.rf
  have hl : lv_has ls 4 [(0, .ref b), (1, .int (nI p)), (2, .int 0), (3, .int x)] := hl
  refine lv_iload_n hx hb dX12_coos_0 rfl (lv_at hl 2 rfl) ?_
  refine lv_tableIn (off := 95) (tgt := 96) hx hb dX12_coos_1 (by decide) (by decide) (by decide) (by decide) ?_
  refine lv_aload_n hx hb dX12_coos_96 rfl (lv_at hl 0 rfl) ?_
  refine lv_bipush (v := 10) hx hb dX12_coos_97 (by decide) ?_
  refine g_kv (g_runV (T := TX12) (ci := 12) (N := 45) (rest := []) hx hb hml hown hE hT (c_X12_ran l G b π μ f g t ht (by omega) 10) gM_X12_ran gm_X12_306 gi_X12_ran gs_RX12_yX12_ran_yX12_ran rfl (h1 0 _ rfl) h1 rfl hl.1 ⟨rfl, rfl⟩ ⟨Nat.le_of_ble_eq_true rfl, Nat.le_of_ble_eq_true rfl⟩ ⟨Nat.zero_le _, Nat.zero_le _⟩ rfl (Nat.le_of_ble_eq_true rfl) dX12_coos_99) hS (by intro q hq; omega) (fun H1 locs q2 k3 hS => ?_)
  have h1 := q2
  refine lv_iload_n hx hb dX12_coos_102 rfl (lv_at hl 3 rfl) ?_
  refine lv_iload_n hx hb dX12_coos_103 rfl (lv_at hl 1 rfl) ?_
  refine lv_iadd hx hb dX12_coos_104 ?_
  rw [← hQ]
  exact g_iret hx hb hr hlk hS dX12_coos_105 ⟨rfl, by rw [show gTrs μ ([10]) = gTr1 μ 10 from by simp only [gTrs, List.foldl_append, List.foldl_cons, List.foldl_nil]]; exact h1⟩

set_option maxHeartbeats 4000000 in
set_option maxRecDepth 100000 in
theorem c_X12_coos_1 (l : Launch) (G : gW) (b : Nat) (π μ f : gPS) (g : Nat → Int64) (t : Nat) (ht : μ 4 1 = nI t) (htl : t ≤ 3009) (p : Nat) (hp : p < 6)  (x : Int32) : gCI l yX12_coos cX12_coos 4 .int (gRm 2 44) G [.ref b, .int (nI p), .int 1, .int x] (fun H => gSg G b (gLM G b π μ f g) H) (fun r H => r = x + nI p ∧ gSg G b (gLM G b π (gTrs μ ([10])) f g) H) (fun q => b ≤ q ∧ q < b + 30) := by
  refine g_start (by decide) (Nat.le_of_ble_eq_true rfl) ?_
  intro pp_ ee_ s mm_ aa_ below meth cc_ ls Q hQ hX hE hP hl
  obtain ⟨hx, hb, hr, hml, hown, hT, hlk, hnm⟩ := hX
  have hK := hE.2.1
  have h1 := hP
  have hS : va_S (fun q => b ≤ q ∧ q < b + 30) s.heap s.heap [] := va_S.rf
  have hl : lv_has ls 4 [(0, .ref b), (1, .int (nI p)), (2, .int 1), (3, .int x)] := hl
  refine lv_iload_n hx hb dX12_coos_0 rfl (lv_at hl 2 rfl) ?_
  refine lv_tableIn (off := 105) (tgt := 106) hx hb dX12_coos_1 (by decide) (by decide) (by decide) (by decide) ?_
  refine lv_aload_n hx hb dX12_coos_106 rfl (lv_at hl 0 rfl) ?_
  refine lv_iload_n hx hb dX12_coos_107 rfl (lv_at hl 1 rfl) ?_
  refine lv_iload_n hx hb dX12_coos_108 rfl (lv_at hl 2 rfl) ?_
  refine g_ki (g_runS (rest := [.int (nI p), .ref b]) hx hb hml hown hE hT (c_X12_above l G 1) gM_X12_above gm_X12_313 gt_X12_above trivial rfl hl.1 ⟨rfl, rfl⟩ ⟨Nat.le_of_ble_eq_true rfl, Nat.le_of_ble_eq_true rfl⟩ ⟨Nat.zero_le _, Nat.zero_le _⟩ rfl (Nat.le_of_ble_eq_true rfl) dX12_coos_109) hS (fun _ h => h.elim) (fun r4 H1 locs q2 k3 hS => ?_)
  subst q2
  have h1 := gSg_free h1 k3 (by intro k hk q; simp only [List.length_cons, List.length_nil] at hk; omega)
  rw [show gAbove 1 = 0 from by decide]
  refine lv_iload_n hx hb dX12_coos_112 rfl (lv_at hl 3 rfl) ?_
  refine g_ki (g_runV (T := TX12) (ci := 12) (N := 45) (rest := []) hx hb hml hown hE hT (c_X12_coos_0 l G b π μ f g t ht (by first | omega | (simp only [List.length_append, List.length_cons, List.length_nil]; omega)) p hp  x) gM_X12_coos gm_X12_310 gi_X12_coos gs_RX12_yX12_coos_yX12_coos rfl (h1 0 _ rfl) h1 rfl hl.1 ⟨rfl, rfl⟩ ⟨Nat.le_of_ble_eq_true rfl, Nat.le_of_ble_eq_true rfl⟩ ⟨Nat.zero_le _, Nat.zero_le _⟩ rfl (Nat.le_of_ble_eq_true rfl) dX12_coos_113) hS (by intro q hq; omega) (fun r8 H5 locs q6 k7 hS => ?_)
  obtain ⟨e9, h1⟩ := q6
  rw [e9]
  rw [← hQ]
  exact g_iret hx hb hr hlk hS dX12_coos_116 ⟨rfl, by rw [show gTrs μ ([10]) = gTrs μ ([10]) from by simp only [gTrs, List.foldl_append, List.foldl_cons, List.foldl_nil]]; exact h1⟩

set_option maxHeartbeats 4000000 in
set_option maxRecDepth 100000 in
theorem c_X12_coos_2 (l : Launch) (G : gW) (b : Nat) (π μ f : gPS) (g : Nat → Int64) (t : Nat) (ht : μ 4 1 = nI t) (htl : t ≤ 3009) (p : Nat) (hp : p < 6)  (x : Int32) : gCI l yX12_coos cX12_coos 4 .int (gRm 2 44) G [.ref b, .int (nI p), .int 2, .int x] (fun H => gSg G b (gLM G b π μ f g) H) (fun r H => r = x * 3 + nI p ∧ gSg G b (gLM G b π (gTrs μ ([30, 10])) f g) H) (fun q => b ≤ q ∧ q < b + 30) := by
  refine g_start (by decide) (Nat.le_of_ble_eq_true rfl) ?_
  intro pp_ ee_ s mm_ aa_ below meth cc_ ls Q hQ hX hE hP hl
  obtain ⟨hx, hb, hr, hml, hown, hT, hlk, hnm⟩ := hX
  have hK := hE.2.1
  have h1 := hP
  have hS : va_S (fun q => b ≤ q ∧ q < b + 30) s.heap s.heap [] := va_S.rf
  have hl : lv_has ls 4 [(0, .ref b), (1, .int (nI p)), (2, .int 2), (3, .int x)] := hl
  refine lv_iload_n hx hb dX12_coos_0 rfl (lv_at hl 2 rfl) ?_
  refine lv_tableIn (off := 43) (tgt := 44) hx hb dX12_coos_1 (by decide) (by decide) (by decide) (by decide) ?_
  refine lv_aload_n hx hb dX12_coos_44 rfl (lv_at hl 0 rfl) ?_
  refine lv_bipush (v := 30) hx hb dX12_coos_45 (by decide) ?_
  refine g_kv (g_runV (T := TX12) (ci := 12) (N := 45) (rest := []) hx hb hml hown hE hT (c_X12_ran l G b π μ f g t ht (by omega) 30) gM_X12_ran gm_X12_306 gi_X12_ran gs_RX12_yX12_ran_yX12_ran rfl (h1 0 _ rfl) h1 rfl hl.1 ⟨rfl, rfl⟩ ⟨Nat.le_of_ble_eq_true rfl, Nat.le_of_ble_eq_true rfl⟩ ⟨Nat.zero_le _, Nat.zero_le _⟩ rfl (Nat.le_of_ble_eq_true rfl) dX12_coos_47) hS (by intro q hq; omega) (fun H1 locs q2 k3 hS => ?_)
  have h1 := q2
  refine lv_aload_n hx hb dX12_coos_50 rfl (lv_at hl 0 rfl) ?_
  refine lv_iload_n hx hb dX12_coos_51 rfl (lv_at hl 1 rfl) ?_
  refine lv_iconst (v := 0) hx hb dX12_coos_52 (by decide) ?_
  refine lv_iload_n hx hb dX12_coos_53 rfl (lv_at hl 3 rfl) ?_
  refine lv_iconst (v := 3) hx hb dX12_coos_54 (by decide) ?_
  refine lv_imul hx hb dX12_coos_55 ?_
  refine g_ki (g_runV (T := TX12) (ci := 12) (N := 45) (rest := []) hx hb hml hown hE hT (c_X12_coos_0 l G b π (gTr1 μ 30) f g (t + 1) (gTr1_n ht) (by first | omega | (simp only [List.length_append, List.length_cons, List.length_nil]; omega)) p hp  (x * 3)) gM_X12_coos gm_X12_310 gi_X12_coos gs_RX12_yX12_coos_yX12_coos rfl (h1 0 _ rfl) h1 rfl hl.1 ⟨rfl, rfl⟩ ⟨Nat.le_of_ble_eq_true rfl, Nat.le_of_ble_eq_true rfl⟩ ⟨Nat.zero_le _, Nat.zero_le _⟩ rfl (Nat.le_of_ble_eq_true rfl) dX12_coos_56) hS (by intro q hq; omega) (fun r8 H5 locs q6 k7 hS => ?_)
  obtain ⟨e9, h1⟩ := q6
  rw [e9]
  rw [← hQ]
  exact g_iret hx hb hr hlk hS dX12_coos_59 ⟨rfl, by rw [show gTrs μ ([30, 10]) = gTrs (gTr1 μ 30) ([10]) from by simp only [gTrs, List.foldl_append, List.foldl_cons, List.foldl_nil]]; exact h1⟩

set_option maxHeartbeats 4000000 in
set_option maxRecDepth 100000 in
theorem c_X12_coos_3 (l : Launch) (G : gW) (b : Nat) (π μ f : gPS) (g : Nat → Int64) (t : Nat) (ht : μ 4 1 = nI t) (htl : t ≤ 3009) (p : Nat) (hp : p < 6)  (x : Int32) : gCI l yX12_coos cX12_coos 4 .int (gRm 2 44) G [.ref b, .int (nI p), .int 3, .int x] (fun H => gSg G b (gLM G b π μ f g) H) (fun r H => r = x + nI p ∧ gSg G b (gLM G b π (gTrs μ ([10])) f g) H) (fun q => b ≤ q ∧ q < b + 30) := by
  refine g_start (by decide) (Nat.le_of_ble_eq_true rfl) ?_
  intro pp_ ee_ s mm_ aa_ below meth cc_ ls Q hQ hX hE hP hl
  obtain ⟨hx, hb, hr, hml, hown, hT, hlk, hnm⟩ := hX
  have hK := hE.2.1
  have h1 := hP
  have hS : va_S (fun q => b ≤ q ∧ q < b + 30) s.heap s.heap [] := va_S.rf
  have hl : lv_has ls 4 [(0, .ref b), (1, .int (nI p)), (2, .int 3), (3, .int x)] := hl
  refine lv_iload_n hx hb dX12_coos_0 rfl (lv_at hl 2 rfl) ?_
  refine lv_tableIn (off := 105) (tgt := 106) hx hb dX12_coos_1 (by decide) (by decide) (by decide) (by decide) ?_
  refine lv_aload_n hx hb dX12_coos_106 rfl (lv_at hl 0 rfl) ?_
  refine lv_iload_n hx hb dX12_coos_107 rfl (lv_at hl 1 rfl) ?_
  refine lv_iload_n hx hb dX12_coos_108 rfl (lv_at hl 2 rfl) ?_
  refine g_ki (g_runS (rest := [.int (nI p), .ref b]) hx hb hml hown hE hT (c_X12_above l G 3) gM_X12_above gm_X12_313 gt_X12_above trivial rfl hl.1 ⟨rfl, rfl⟩ ⟨Nat.le_of_ble_eq_true rfl, Nat.le_of_ble_eq_true rfl⟩ ⟨Nat.zero_le _, Nat.zero_le _⟩ rfl (Nat.le_of_ble_eq_true rfl) dX12_coos_109) hS (fun _ h => h.elim) (fun r4 H1 locs q2 k3 hS => ?_)
  subst q2
  have h1 := gSg_free h1 k3 (by intro k hk q; simp only [List.length_cons, List.length_nil] at hk; omega)
  rw [show gAbove 3 = 0 from by decide]
  refine lv_iload_n hx hb dX12_coos_112 rfl (lv_at hl 3 rfl) ?_
  refine g_ki (g_runV (T := TX12) (ci := 12) (N := 45) (rest := []) hx hb hml hown hE hT (c_X12_coos_0 l G b π μ f g t ht (by first | omega | (simp only [List.length_append, List.length_cons, List.length_nil]; omega)) p hp  x) gM_X12_coos gm_X12_310 gi_X12_coos gs_RX12_yX12_coos_yX12_coos rfl (h1 0 _ rfl) h1 rfl hl.1 ⟨rfl, rfl⟩ ⟨Nat.le_of_ble_eq_true rfl, Nat.le_of_ble_eq_true rfl⟩ ⟨Nat.zero_le _, Nat.zero_le _⟩ rfl (Nat.le_of_ble_eq_true rfl) dX12_coos_113) hS (by intro q hq; omega) (fun r8 H5 locs q6 k7 hS => ?_)
  obtain ⟨e9, h1⟩ := q6
  rw [e9]
  rw [← hQ]
  exact g_iret hx hb hr hlk hS dX12_coos_116 ⟨rfl, by rw [show gTrs μ ([10]) = gTrs μ ([10]) from by simp only [gTrs, List.foldl_append, List.foldl_cons, List.foldl_nil]]; exact h1⟩

set_option maxHeartbeats 4000000 in
set_option maxRecDepth 100000 in
theorem c_X12_coos_4 (l : Launch) (G : gW) (b : Nat) (π μ f : gPS) (g : Nat → Int64) (t : Nat) (ht : μ 4 1 = nI t) (htl : t ≤ 3008) (p : Nat) (hp : p < 6)  (x : Int32) : gCI l yX12_coos cX12_coos 4 .int (gRm 3 67) G [.ref b, .int (nI p), .int 4, .int x] (fun H => gSg G b (gLM G b π μ f g) H) (fun r H => r = -(x + nI p) ∧ gSg G b (gLM G b π (gTrs μ ([50, 10])) f g) H) (fun q => b ≤ q ∧ q < b + 30) := by
  refine g_start (by decide) (Nat.le_of_ble_eq_true rfl) ?_
  intro pp_ ee_ s mm_ aa_ below meth cc_ ls Q hQ hX hE hP hl
  obtain ⟨hx, hb, hr, hml, hown, hT, hlk, hnm⟩ := hX
  have hK := hE.2.1
  have h1 := hP
  have hS : va_S (fun q => b ≤ q ∧ q < b + 30) s.heap s.heap [] := va_S.rf
  have hl : lv_has ls 4 [(0, .ref b), (1, .int (nI p)), (2, .int 4), (3, .int x)] := hl
  refine lv_iload_n hx hb dX12_coos_0 rfl (lv_at hl 2 rfl) ?_
  refine lv_tableIn (off := 59) (tgt := 60) hx hb dX12_coos_1 (by decide) (by decide) (by decide) (by decide) ?_
  refine lv_aload_n hx hb dX12_coos_60 rfl (lv_at hl 0 rfl) ?_
  refine lv_bipush (v := 50) hx hb dX12_coos_61 (by decide) ?_
  refine g_kv (g_runV (T := TX12) (ci := 12) (N := 45) (rest := []) hx hb hml hown hE hT (c_X12_ran l G b π μ f g t ht (by omega) 50) gM_X12_ran gm_X12_306 gi_X12_ran gs_RX12_yX12_ran_yX12_ran rfl (h1 0 _ rfl) h1 rfl hl.1 ⟨rfl, rfl⟩ ⟨Nat.le_of_ble_eq_true rfl, Nat.le_of_ble_eq_true rfl⟩ ⟨Nat.zero_le _, Nat.zero_le _⟩ rfl (Nat.le_of_ble_eq_true rfl) dX12_coos_63) hS (by intro q hq; omega) (fun H1 locs q2 k3 hS => ?_)
  have h1 := q2
  refine lv_aload_n hx hb dX12_coos_66 rfl (lv_at hl 0 rfl) ?_
  refine lv_iload_n hx hb dX12_coos_67 rfl (lv_at hl 1 rfl) ?_
  refine lv_iconst (v := 1) hx hb dX12_coos_68 (by decide) ?_
  refine lv_iload_n hx hb dX12_coos_69 rfl (lv_at hl 3 rfl) ?_
  refine g_ki (g_runV (T := TX12) (ci := 12) (N := 45) (rest := []) hx hb hml hown hE hT (c_X12_coos_1 l G b π (gTr1 μ 50) f g (t + 1) (gTr1_n ht) (by first | omega | (simp only [List.length_append, List.length_cons, List.length_nil]; omega)) p hp  x) gM_X12_coos gm_X12_310 gi_X12_coos gs_RX12_yX12_coos_yX12_coos rfl (h1 0 _ rfl) h1 rfl hl.1 ⟨rfl, rfl⟩ ⟨Nat.le_of_ble_eq_true rfl, Nat.le_of_ble_eq_true rfl⟩ ⟨Nat.zero_le _, Nat.zero_le _⟩ rfl (Nat.le_of_ble_eq_true rfl) dX12_coos_70) hS (by intro q hq; omega) (fun r8 H5 locs q6 k7 hS => ?_)
  obtain ⟨e9, h1⟩ := q6
  rw [e9]
  refine lv_ineg hx hb dX12_coos_73 ?_
  rw [← hQ]
  exact g_iret hx hb hr hlk hS dX12_coos_74 ⟨rfl, by rw [show gTrs μ ([50, 10]) = gTrs (gTr1 μ 50) ([10]) from by simp only [gTrs, List.foldl_append, List.foldl_cons, List.foldl_nil]]; exact h1⟩

set_option maxHeartbeats 4000000 in
set_option maxRecDepth 100000 in
theorem c_X12_coos_5 (l : Launch) (G : gW) (b : Nat) (π μ f : gPS) (g : Nat → Int64) (t : Nat) (ht : μ 4 1 = nI t) (htl : t ≤ 3008) (p : Nat) (hp : p < 6)  (x : Int32) : gCI l yX12_coos cX12_coos 4 .int (gRm 3 67) G [.ref b, .int (nI p), .int 5, .int x] (fun H => gSg G b (gLM G b π μ f g) H) (fun r H => r = x * 3 + nI p ∧ gSg G b (gLM G b π (gTrs μ ([30, 10])) f g) H) (fun q => b ≤ q ∧ q < b + 30) := by
  refine g_start (by decide) (Nat.le_of_ble_eq_true rfl) ?_
  intro pp_ ee_ s mm_ aa_ below meth cc_ ls Q hQ hX hE hP hl
  obtain ⟨hx, hb, hr, hml, hown, hT, hlk, hnm⟩ := hX
  have hK := hE.2.1
  have h1 := hP
  have hS : va_S (fun q => b ≤ q ∧ q < b + 30) s.heap s.heap [] := va_S.rf
  have hl : lv_has ls 4 [(0, .ref b), (1, .int (nI p)), (2, .int 5), (3, .int x)] := hl
  refine lv_iload_n hx hb dX12_coos_0 rfl (lv_at hl 2 rfl) ?_
  refine lv_tableIn (off := 105) (tgt := 106) hx hb dX12_coos_1 (by decide) (by decide) (by decide) (by decide) ?_
  refine lv_aload_n hx hb dX12_coos_106 rfl (lv_at hl 0 rfl) ?_
  refine lv_iload_n hx hb dX12_coos_107 rfl (lv_at hl 1 rfl) ?_
  refine lv_iload_n hx hb dX12_coos_108 rfl (lv_at hl 2 rfl) ?_
  refine g_ki (g_runS (rest := [.int (nI p), .ref b]) hx hb hml hown hE hT (c_X12_above l G 5) gM_X12_above gm_X12_313 gt_X12_above trivial rfl hl.1 ⟨rfl, rfl⟩ ⟨Nat.le_of_ble_eq_true rfl, Nat.le_of_ble_eq_true rfl⟩ ⟨Nat.zero_le _, Nat.zero_le _⟩ rfl (Nat.le_of_ble_eq_true rfl) dX12_coos_109) hS (fun _ h => h.elim) (fun r4 H1 locs q2 k3 hS => ?_)
  subst q2
  have h1 := gSg_free h1 k3 (by intro k hk q; simp only [List.length_cons, List.length_nil] at hk; omega)
  rw [show gAbove 5 = 2 from by decide]
  refine lv_iload_n hx hb dX12_coos_112 rfl (lv_at hl 3 rfl) ?_
  refine g_ki (g_runV (T := TX12) (ci := 12) (N := 45) (rest := []) hx hb hml hown hE hT (c_X12_coos_2 l G b π μ f g t ht (by first | omega | (simp only [List.length_append, List.length_cons, List.length_nil]; omega)) p hp  x) gM_X12_coos gm_X12_310 gi_X12_coos gs_RX12_yX12_coos_yX12_coos rfl (h1 0 _ rfl) h1 rfl hl.1 ⟨rfl, rfl⟩ ⟨Nat.le_of_ble_eq_true rfl, Nat.le_of_ble_eq_true rfl⟩ ⟨Nat.zero_le _, Nat.zero_le _⟩ rfl (Nat.le_of_ble_eq_true rfl) dX12_coos_113) hS (by intro q hq; omega) (fun r8 H5 locs q6 k7 hS => ?_)
  obtain ⟨e9, h1⟩ := q6
  rw [e9]
  rw [← hQ]
  exact g_iret hx hb hr hlk hS dX12_coos_116 ⟨rfl, by rw [show gTrs μ ([30, 10]) = gTrs μ ([30, 10]) from by simp only [gTrs, List.foldl_append, List.foldl_cons, List.foldl_nil]]; exact h1⟩

set_option maxHeartbeats 4000000 in
set_option maxRecDepth 100000 in
theorem c_X12_coos_6 (l : Launch) (G : gW) (b : Nat) (π μ f : gPS) (g : Nat → Int64) (t : Nat) (ht : μ 4 1 = nI t) (htl : t ≤ 3008) (p : Nat) (hp : p < 6)  (x : Int32) : gCI l yX12_coos cX12_coos 4 .int (gRm 3 67) G [.ref b, .int (nI p), .int 6, .int x] (fun H => gSg G b (gLM G b π μ f g) H) (fun r H => r = (x + nI p) ^^^ π 3 p ∧ gSg G b (gLM G b π (gTrs μ ([71, 10])) f g) H) (fun q => b ≤ q ∧ q < b + 30) := by
  refine g_start (by decide) (Nat.le_of_ble_eq_true rfl) ?_
  intro pp_ ee_ s mm_ aa_ below meth cc_ ls Q hQ hX hE hP hl
  obtain ⟨hx, hb, hr, hml, hown, hT, hlk, hnm⟩ := hX
  have hK := hE.2.1
  have h1 := hP
  have hS : va_S (fun q => b ≤ q ∧ q < b + 30) s.heap s.heap [] := va_S.rf
  have hl : lv_has ls 4 [(0, .ref b), (1, .int (nI p)), (2, .int 6), (3, .int x)] := hl
  refine lv_iload_n hx hb dX12_coos_0 rfl (lv_at hl 2 rfl) ?_
  refine lv_tableIn (off := 74) (tgt := 75) hx hb dX12_coos_1 (by decide) (by decide) (by decide) (by decide) ?_
  refine lv_aload_n hx hb dX12_coos_75 rfl (lv_at hl 0 rfl) ?_
  refine lv_bipush (v := 71) hx hb dX12_coos_76 (by decide) ?_
  refine g_kv (g_runV (T := TX12) (ci := 12) (N := 45) (rest := []) hx hb hml hown hE hT (c_X12_ran l G b π μ f g t ht (by omega) 71) gM_X12_ran gm_X12_306 gi_X12_ran gs_RX12_yX12_ran_yX12_ran rfl (h1 0 _ rfl) h1 rfl hl.1 ⟨rfl, rfl⟩ ⟨Nat.le_of_ble_eq_true rfl, Nat.le_of_ble_eq_true rfl⟩ ⟨Nat.zero_le _, Nat.zero_le _⟩ rfl (Nat.le_of_ble_eq_true rfl) dX12_coos_78) hS (by intro q hq; omega) (fun H1 locs q2 k3 hS => ?_)
  have h1 := q2
  refine lv_aload_n hx hb dX12_coos_81 rfl (lv_at hl 0 rfl) ?_
  refine lv_iload_n hx hb dX12_coos_82 rfl (lv_at hl 1 rfl) ?_
  refine lv_iconst (v := 3) hx hb dX12_coos_83 (by decide) ?_
  refine lv_iload_n hx hb dX12_coos_84 rfl (lv_at hl 3 rfl) ?_
  refine g_ki (g_runV (T := TX12) (ci := 12) (N := 45) (rest := []) hx hb hml hown hE hT (c_X12_coos_3 l G b π (gTr1 μ 71) f g (t + 1) (gTr1_n ht) (by first | omega | (simp only [List.length_append, List.length_cons, List.length_nil]; omega)) p hp  x) gM_X12_coos gm_X12_310 gi_X12_coos gs_RX12_yX12_coos_yX12_coos rfl (h1 0 _ rfl) h1 rfl hl.1 ⟨rfl, rfl⟩ ⟨Nat.le_of_ble_eq_true rfl, Nat.le_of_ble_eq_true rfl⟩ ⟨Nat.zero_le _, Nat.zero_le _⟩ rfl (Nat.le_of_ble_eq_true rfl) dX12_coos_85) hS (by intro q hq; omega) (fun r8 H5 locs q6 k7 hS => ?_)
  obtain ⟨e9, h1⟩ := q6
  rw [e9]
  refine lv_aload_n hx hb dX12_coos_88 rfl (lv_at hl 0 rfl) ?_
  refine g_get (v := .ref (b + 4)) (T := TX12) (ci := 12) (N := 45) hx hb hown hK (gY_X12 hT) rfl (h1 0 _ rfl) 5 (by decide) (hT _ gf_X12_21) rfl dX12_coos_89 ?_
  refine lv_iload_n hx hb dX12_coos_92 rfl (lv_at hl 1 rfl) ?_
  refine g_ia (j := p) (v := π 3 p) hx hb hK (h1 4 _ rfl) rfl (by omega) (Nat.le_of_ble_eq_true rfl) rfl dX12_coos_93 ?_
  refine lv_ixor hx hb dX12_coos_94 ?_
  rw [← hQ]
  exact g_iret hx hb hr hlk hS dX12_coos_95 ⟨rfl, by rw [show gTrs μ ([71, 10]) = gTrs (gTr1 μ 71) ([10]) from by simp only [gTrs, List.foldl_append, List.foldl_cons, List.foldl_nil]]; exact h1⟩

set_option maxHeartbeats 4000000 in
set_option maxRecDepth 100000 in
theorem c_X12_coos_0a (l : Launch) (G : gW) (b : Nat) (π μ f : gPS) (g : Nat → Int64) (t : Nat) (ht : μ 4 1 = nI t) (htl : t ≤ 3000) (p : Nat) (hp : p < 6)  (x : Int32) : gCI l yX12_coos cX12_coos 4 .int (gRm 3 67) G [.ref b, .int (nI p), .int 0, .int x] (fun H => gSg G b (gLM G b π μ f g) H) (fun r H => r = x + nI p ∧ gSg G b (gLM G b π (gTrs μ ([10])) f g) H) (fun q => b ≤ q ∧ q < b + 30) := by
  refine g_start (by decide) (Nat.le_of_ble_eq_true rfl) ?_
  intro pp_ ee_ s mm_ aa_ below meth cc_ ls Q hQ hX hE hP hl
  obtain ⟨hx, hb, hr, hml, hown, hT, hlk, hnm⟩ := hX
  have hK := hE.2.1
  have h1 := hP
  have hS : va_S (fun q => b ≤ q ∧ q < b + 30) s.heap s.heap [] := va_S.rf
  have hl : lv_has ls 4 [(0, .ref b), (1, .int (nI p)), (2, .int 0), (3, .int x)] := hl
  refine lv_iload_n hx hb dX12_coos_0 rfl (lv_at hl 2 rfl) ?_
  refine lv_tableIn (off := 95) (tgt := 96) hx hb dX12_coos_1 (by decide) (by decide) (by decide) (by decide) ?_
  refine lv_aload_n hx hb dX12_coos_96 rfl (lv_at hl 0 rfl) ?_
  refine lv_bipush (v := 10) hx hb dX12_coos_97 (by decide) ?_
  refine g_kv (g_runV (T := TX12) (ci := 12) (N := 45) (rest := []) hx hb hml hown hE hT (c_X12_ran l G b π μ f g t ht (by omega) 10) gM_X12_ran gm_X12_306 gi_X12_ran gs_RX12_yX12_ran_yX12_ran rfl (h1 0 _ rfl) h1 rfl hl.1 ⟨rfl, rfl⟩ ⟨Nat.le_of_ble_eq_true rfl, Nat.le_of_ble_eq_true rfl⟩ ⟨Nat.zero_le _, Nat.zero_le _⟩ rfl (Nat.le_of_ble_eq_true rfl) dX12_coos_99) hS (by intro q hq; omega) (fun H1 locs q2 k3 hS => ?_)
  have h1 := q2
  refine lv_iload_n hx hb dX12_coos_102 rfl (lv_at hl 3 rfl) ?_
  refine lv_iload_n hx hb dX12_coos_103 rfl (lv_at hl 1 rfl) ?_
  refine lv_iadd hx hb dX12_coos_104 ?_
  rw [← hQ]
  exact g_iret hx hb hr hlk hS dX12_coos_105 ⟨rfl, by rw [show gTrs μ ([10]) = gTr1 μ 10 from by simp only [gTrs, List.foldl_append, List.foldl_cons, List.foldl_nil]]; exact h1⟩

set_option maxHeartbeats 4000000 in
set_option maxRecDepth 100000 in
theorem c_X12_coos_1a (l : Launch) (G : gW) (b : Nat) (π μ f : gPS) (g : Nat → Int64) (t : Nat) (ht : μ 4 1 = nI t) (htl : t ≤ 3000) (p : Nat) (hp : p < 6)  (x : Int32) : gCI l yX12_coos cX12_coos 4 .int (gRm 3 67) G [.ref b, .int (nI p), .int 1, .int x] (fun H => gSg G b (gLM G b π μ f g) H) (fun r H => r = x + nI p ∧ gSg G b (gLM G b π (gTrs μ ([10])) f g) H) (fun q => b ≤ q ∧ q < b + 30) := by
  refine g_start (by decide) (Nat.le_of_ble_eq_true rfl) ?_
  intro pp_ ee_ s mm_ aa_ below meth cc_ ls Q hQ hX hE hP hl
  obtain ⟨hx, hb, hr, hml, hown, hT, hlk, hnm⟩ := hX
  have hK := hE.2.1
  have h1 := hP
  have hS : va_S (fun q => b ≤ q ∧ q < b + 30) s.heap s.heap [] := va_S.rf
  have hl : lv_has ls 4 [(0, .ref b), (1, .int (nI p)), (2, .int 1), (3, .int x)] := hl
  refine lv_iload_n hx hb dX12_coos_0 rfl (lv_at hl 2 rfl) ?_
  refine lv_tableIn (off := 105) (tgt := 106) hx hb dX12_coos_1 (by decide) (by decide) (by decide) (by decide) ?_
  refine lv_aload_n hx hb dX12_coos_106 rfl (lv_at hl 0 rfl) ?_
  refine lv_iload_n hx hb dX12_coos_107 rfl (lv_at hl 1 rfl) ?_
  refine lv_iload_n hx hb dX12_coos_108 rfl (lv_at hl 2 rfl) ?_
  refine g_ki (g_runS (rest := [.int (nI p), .ref b]) hx hb hml hown hE hT (c_X12_above l G 1) gM_X12_above gm_X12_313 gt_X12_above trivial rfl hl.1 ⟨rfl, rfl⟩ ⟨Nat.le_of_ble_eq_true rfl, Nat.le_of_ble_eq_true rfl⟩ ⟨Nat.zero_le _, Nat.zero_le _⟩ rfl (Nat.le_of_ble_eq_true rfl) dX12_coos_109) hS (fun _ h => h.elim) (fun r4 H1 locs q2 k3 hS => ?_)
  subst q2
  have h1 := gSg_free h1 k3 (by intro k hk q; simp only [List.length_cons, List.length_nil] at hk; omega)
  rw [show gAbove 1 = 0 from by decide]
  refine lv_iload_n hx hb dX12_coos_112 rfl (lv_at hl 3 rfl) ?_
  refine g_ki (g_runV (T := TX12) (ci := 12) (N := 45) (rest := []) hx hb hml hown hE hT (c_X12_coos_0 l G b π μ f g t ht (by first | omega | (simp only [List.length_append, List.length_cons, List.length_nil]; omega)) p hp  x) gM_X12_coos gm_X12_310 gi_X12_coos gs_RX12_yX12_coos_yX12_coos rfl (h1 0 _ rfl) h1 rfl hl.1 ⟨rfl, rfl⟩ ⟨Nat.le_of_ble_eq_true rfl, Nat.le_of_ble_eq_true rfl⟩ ⟨Nat.zero_le _, Nat.zero_le _⟩ rfl (Nat.le_of_ble_eq_true rfl) dX12_coos_113) hS (by intro q hq; omega) (fun r8 H5 locs q6 k7 hS => ?_)
  obtain ⟨e9, h1⟩ := q6
  rw [e9]
  rw [← hQ]
  exact g_iret hx hb hr hlk hS dX12_coos_116 ⟨rfl, by rw [show gTrs μ ([10]) = gTrs μ ([10]) from by simp only [gTrs, List.foldl_append, List.foldl_cons, List.foldl_nil]]; exact h1⟩

set_option maxHeartbeats 4000000 in
set_option maxRecDepth 100000 in
theorem c_X12_coos_2a (l : Launch) (G : gW) (b : Nat) (π μ f : gPS) (g : Nat → Int64) (t : Nat) (ht : μ 4 1 = nI t) (htl : t ≤ 3000) (p : Nat) (hp : p < 6)  (x : Int32) : gCI l yX12_coos cX12_coos 4 .int (gRm 3 67) G [.ref b, .int (nI p), .int 2, .int x] (fun H => gSg G b (gLM G b π μ f g) H) (fun r H => r = x * 3 + nI p ∧ gSg G b (gLM G b π (gTrs μ ([30, 10])) f g) H) (fun q => b ≤ q ∧ q < b + 30) := by
  refine g_start (by decide) (Nat.le_of_ble_eq_true rfl) ?_
  intro pp_ ee_ s mm_ aa_ below meth cc_ ls Q hQ hX hE hP hl
  obtain ⟨hx, hb, hr, hml, hown, hT, hlk, hnm⟩ := hX
  have hK := hE.2.1
  have h1 := hP
  have hS : va_S (fun q => b ≤ q ∧ q < b + 30) s.heap s.heap [] := va_S.rf
  have hl : lv_has ls 4 [(0, .ref b), (1, .int (nI p)), (2, .int 2), (3, .int x)] := hl
  refine lv_iload_n hx hb dX12_coos_0 rfl (lv_at hl 2 rfl) ?_
  refine lv_tableIn (off := 43) (tgt := 44) hx hb dX12_coos_1 (by decide) (by decide) (by decide) (by decide) ?_
  refine lv_aload_n hx hb dX12_coos_44 rfl (lv_at hl 0 rfl) ?_
  refine lv_bipush (v := 30) hx hb dX12_coos_45 (by decide) ?_
  refine g_kv (g_runV (T := TX12) (ci := 12) (N := 45) (rest := []) hx hb hml hown hE hT (c_X12_ran l G b π μ f g t ht (by omega) 30) gM_X12_ran gm_X12_306 gi_X12_ran gs_RX12_yX12_ran_yX12_ran rfl (h1 0 _ rfl) h1 rfl hl.1 ⟨rfl, rfl⟩ ⟨Nat.le_of_ble_eq_true rfl, Nat.le_of_ble_eq_true rfl⟩ ⟨Nat.zero_le _, Nat.zero_le _⟩ rfl (Nat.le_of_ble_eq_true rfl) dX12_coos_47) hS (by intro q hq; omega) (fun H1 locs q2 k3 hS => ?_)
  have h1 := q2
  refine lv_aload_n hx hb dX12_coos_50 rfl (lv_at hl 0 rfl) ?_
  refine lv_iload_n hx hb dX12_coos_51 rfl (lv_at hl 1 rfl) ?_
  refine lv_iconst (v := 0) hx hb dX12_coos_52 (by decide) ?_
  refine lv_iload_n hx hb dX12_coos_53 rfl (lv_at hl 3 rfl) ?_
  refine lv_iconst (v := 3) hx hb dX12_coos_54 (by decide) ?_
  refine lv_imul hx hb dX12_coos_55 ?_
  refine g_ki (g_runV (T := TX12) (ci := 12) (N := 45) (rest := []) hx hb hml hown hE hT (c_X12_coos_0 l G b π (gTr1 μ 30) f g (t + 1) (gTr1_n ht) (by first | omega | (simp only [List.length_append, List.length_cons, List.length_nil]; omega)) p hp  (x * 3)) gM_X12_coos gm_X12_310 gi_X12_coos gs_RX12_yX12_coos_yX12_coos rfl (h1 0 _ rfl) h1 rfl hl.1 ⟨rfl, rfl⟩ ⟨Nat.le_of_ble_eq_true rfl, Nat.le_of_ble_eq_true rfl⟩ ⟨Nat.zero_le _, Nat.zero_le _⟩ rfl (Nat.le_of_ble_eq_true rfl) dX12_coos_56) hS (by intro q hq; omega) (fun r8 H5 locs q6 k7 hS => ?_)
  obtain ⟨e9, h1⟩ := q6
  rw [e9]
  rw [← hQ]
  exact g_iret hx hb hr hlk hS dX12_coos_59 ⟨rfl, by rw [show gTrs μ ([30, 10]) = gTrs (gTr1 μ 30) ([10]) from by simp only [gTrs, List.foldl_append, List.foldl_cons, List.foldl_nil]]; exact h1⟩

set_option maxHeartbeats 4000000 in
set_option maxRecDepth 100000 in
theorem c_X12_coos_3a (l : Launch) (G : gW) (b : Nat) (π μ f : gPS) (g : Nat → Int64) (t : Nat) (ht : μ 4 1 = nI t) (htl : t ≤ 3000) (p : Nat) (hp : p < 6)  (x : Int32) : gCI l yX12_coos cX12_coos 4 .int (gRm 3 67) G [.ref b, .int (nI p), .int 3, .int x] (fun H => gSg G b (gLM G b π μ f g) H) (fun r H => r = x + nI p ∧ gSg G b (gLM G b π (gTrs μ ([10])) f g) H) (fun q => b ≤ q ∧ q < b + 30) := by
  refine g_start (by decide) (Nat.le_of_ble_eq_true rfl) ?_
  intro pp_ ee_ s mm_ aa_ below meth cc_ ls Q hQ hX hE hP hl
  obtain ⟨hx, hb, hr, hml, hown, hT, hlk, hnm⟩ := hX
  have hK := hE.2.1
  have h1 := hP
  have hS : va_S (fun q => b ≤ q ∧ q < b + 30) s.heap s.heap [] := va_S.rf
  have hl : lv_has ls 4 [(0, .ref b), (1, .int (nI p)), (2, .int 3), (3, .int x)] := hl
  refine lv_iload_n hx hb dX12_coos_0 rfl (lv_at hl 2 rfl) ?_
  refine lv_tableIn (off := 105) (tgt := 106) hx hb dX12_coos_1 (by decide) (by decide) (by decide) (by decide) ?_
  refine lv_aload_n hx hb dX12_coos_106 rfl (lv_at hl 0 rfl) ?_
  refine lv_iload_n hx hb dX12_coos_107 rfl (lv_at hl 1 rfl) ?_
  refine lv_iload_n hx hb dX12_coos_108 rfl (lv_at hl 2 rfl) ?_
  refine g_ki (g_runS (rest := [.int (nI p), .ref b]) hx hb hml hown hE hT (c_X12_above l G 3) gM_X12_above gm_X12_313 gt_X12_above trivial rfl hl.1 ⟨rfl, rfl⟩ ⟨Nat.le_of_ble_eq_true rfl, Nat.le_of_ble_eq_true rfl⟩ ⟨Nat.zero_le _, Nat.zero_le _⟩ rfl (Nat.le_of_ble_eq_true rfl) dX12_coos_109) hS (fun _ h => h.elim) (fun r4 H1 locs q2 k3 hS => ?_)
  subst q2
  have h1 := gSg_free h1 k3 (by intro k hk q; simp only [List.length_cons, List.length_nil] at hk; omega)
  rw [show gAbove 3 = 0 from by decide]
  refine lv_iload_n hx hb dX12_coos_112 rfl (lv_at hl 3 rfl) ?_
  refine g_ki (g_runV (T := TX12) (ci := 12) (N := 45) (rest := []) hx hb hml hown hE hT (c_X12_coos_0 l G b π μ f g t ht (by first | omega | (simp only [List.length_append, List.length_cons, List.length_nil]; omega)) p hp  x) gM_X12_coos gm_X12_310 gi_X12_coos gs_RX12_yX12_coos_yX12_coos rfl (h1 0 _ rfl) h1 rfl hl.1 ⟨rfl, rfl⟩ ⟨Nat.le_of_ble_eq_true rfl, Nat.le_of_ble_eq_true rfl⟩ ⟨Nat.zero_le _, Nat.zero_le _⟩ rfl (Nat.le_of_ble_eq_true rfl) dX12_coos_113) hS (by intro q hq; omega) (fun r8 H5 locs q6 k7 hS => ?_)
  obtain ⟨e9, h1⟩ := q6
  rw [e9]
  rw [← hQ]
  exact g_iret hx hb hr hlk hS dX12_coos_116 ⟨rfl, by rw [show gTrs μ ([10]) = gTrs μ ([10]) from by simp only [gTrs, List.foldl_append, List.foldl_cons, List.foldl_nil]]; exact h1⟩

set_option maxHeartbeats 4000000 in
set_option maxRecDepth 100000 in
theorem c_X12_coos_4a (l : Launch) (G : gW) (b : Nat) (π μ f : gPS) (g : Nat → Int64) (t : Nat) (ht : μ 4 1 = nI t) (htl : t ≤ 3000) (p : Nat) (hp : p < 6)  (x : Int32) : gCI l yX12_coos cX12_coos 4 .int (gRm 3 67) G [.ref b, .int (nI p), .int 4, .int x] (fun H => gSg G b (gLM G b π μ f g) H) (fun r H => r = -(x + nI p) ∧ gSg G b (gLM G b π (gTrs μ ([50, 10])) f g) H) (fun q => b ≤ q ∧ q < b + 30) := by
  refine g_start (by decide) (Nat.le_of_ble_eq_true rfl) ?_
  intro pp_ ee_ s mm_ aa_ below meth cc_ ls Q hQ hX hE hP hl
  obtain ⟨hx, hb, hr, hml, hown, hT, hlk, hnm⟩ := hX
  have hK := hE.2.1
  have h1 := hP
  have hS : va_S (fun q => b ≤ q ∧ q < b + 30) s.heap s.heap [] := va_S.rf
  have hl : lv_has ls 4 [(0, .ref b), (1, .int (nI p)), (2, .int 4), (3, .int x)] := hl
  refine lv_iload_n hx hb dX12_coos_0 rfl (lv_at hl 2 rfl) ?_
  refine lv_tableIn (off := 59) (tgt := 60) hx hb dX12_coos_1 (by decide) (by decide) (by decide) (by decide) ?_
  refine lv_aload_n hx hb dX12_coos_60 rfl (lv_at hl 0 rfl) ?_
  refine lv_bipush (v := 50) hx hb dX12_coos_61 (by decide) ?_
  refine g_kv (g_runV (T := TX12) (ci := 12) (N := 45) (rest := []) hx hb hml hown hE hT (c_X12_ran l G b π μ f g t ht (by omega) 50) gM_X12_ran gm_X12_306 gi_X12_ran gs_RX12_yX12_ran_yX12_ran rfl (h1 0 _ rfl) h1 rfl hl.1 ⟨rfl, rfl⟩ ⟨Nat.le_of_ble_eq_true rfl, Nat.le_of_ble_eq_true rfl⟩ ⟨Nat.zero_le _, Nat.zero_le _⟩ rfl (Nat.le_of_ble_eq_true rfl) dX12_coos_63) hS (by intro q hq; omega) (fun H1 locs q2 k3 hS => ?_)
  have h1 := q2
  refine lv_aload_n hx hb dX12_coos_66 rfl (lv_at hl 0 rfl) ?_
  refine lv_iload_n hx hb dX12_coos_67 rfl (lv_at hl 1 rfl) ?_
  refine lv_iconst (v := 1) hx hb dX12_coos_68 (by decide) ?_
  refine lv_iload_n hx hb dX12_coos_69 rfl (lv_at hl 3 rfl) ?_
  refine g_ki (g_runV (T := TX12) (ci := 12) (N := 45) (rest := []) hx hb hml hown hE hT (c_X12_coos_1 l G b π (gTr1 μ 50) f g (t + 1) (gTr1_n ht) (by first | omega | (simp only [List.length_append, List.length_cons, List.length_nil]; omega)) p hp  x) gM_X12_coos gm_X12_310 gi_X12_coos gs_RX12_yX12_coos_yX12_coos rfl (h1 0 _ rfl) h1 rfl hl.1 ⟨rfl, rfl⟩ ⟨Nat.le_of_ble_eq_true rfl, Nat.le_of_ble_eq_true rfl⟩ ⟨Nat.zero_le _, Nat.zero_le _⟩ rfl (Nat.le_of_ble_eq_true rfl) dX12_coos_70) hS (by intro q hq; omega) (fun r8 H5 locs q6 k7 hS => ?_)
  obtain ⟨e9, h1⟩ := q6
  rw [e9]
  refine lv_ineg hx hb dX12_coos_73 ?_
  rw [← hQ]
  exact g_iret hx hb hr hlk hS dX12_coos_74 ⟨rfl, by rw [show gTrs μ ([50, 10]) = gTrs (gTr1 μ 50) ([10]) from by simp only [gTrs, List.foldl_append, List.foldl_cons, List.foldl_nil]]; exact h1⟩

set_option maxHeartbeats 4000000 in
set_option maxRecDepth 100000 in
theorem c_X12_coos_5a (l : Launch) (G : gW) (b : Nat) (π μ f : gPS) (g : Nat → Int64) (t : Nat) (ht : μ 4 1 = nI t) (htl : t ≤ 3000) (p : Nat) (hp : p < 6)  (x : Int32) : gCI l yX12_coos cX12_coos 4 .int (gRm 3 67) G [.ref b, .int (nI p), .int 5, .int x] (fun H => gSg G b (gLM G b π μ f g) H) (fun r H => r = x * 3 + nI p ∧ gSg G b (gLM G b π (gTrs μ ([30, 10])) f g) H) (fun q => b ≤ q ∧ q < b + 30) := by
  refine g_start (by decide) (Nat.le_of_ble_eq_true rfl) ?_
  intro pp_ ee_ s mm_ aa_ below meth cc_ ls Q hQ hX hE hP hl
  obtain ⟨hx, hb, hr, hml, hown, hT, hlk, hnm⟩ := hX
  have hK := hE.2.1
  have h1 := hP
  have hS : va_S (fun q => b ≤ q ∧ q < b + 30) s.heap s.heap [] := va_S.rf
  have hl : lv_has ls 4 [(0, .ref b), (1, .int (nI p)), (2, .int 5), (3, .int x)] := hl
  refine lv_iload_n hx hb dX12_coos_0 rfl (lv_at hl 2 rfl) ?_
  refine lv_tableIn (off := 105) (tgt := 106) hx hb dX12_coos_1 (by decide) (by decide) (by decide) (by decide) ?_
  refine lv_aload_n hx hb dX12_coos_106 rfl (lv_at hl 0 rfl) ?_
  refine lv_iload_n hx hb dX12_coos_107 rfl (lv_at hl 1 rfl) ?_
  refine lv_iload_n hx hb dX12_coos_108 rfl (lv_at hl 2 rfl) ?_
  refine g_ki (g_runS (rest := [.int (nI p), .ref b]) hx hb hml hown hE hT (c_X12_above l G 5) gM_X12_above gm_X12_313 gt_X12_above trivial rfl hl.1 ⟨rfl, rfl⟩ ⟨Nat.le_of_ble_eq_true rfl, Nat.le_of_ble_eq_true rfl⟩ ⟨Nat.zero_le _, Nat.zero_le _⟩ rfl (Nat.le_of_ble_eq_true rfl) dX12_coos_109) hS (fun _ h => h.elim) (fun r4 H1 locs q2 k3 hS => ?_)
  subst q2
  have h1 := gSg_free h1 k3 (by intro k hk q; simp only [List.length_cons, List.length_nil] at hk; omega)
  rw [show gAbove 5 = 2 from by decide]
  refine lv_iload_n hx hb dX12_coos_112 rfl (lv_at hl 3 rfl) ?_
  refine g_ki (g_runV (T := TX12) (ci := 12) (N := 45) (rest := []) hx hb hml hown hE hT (c_X12_coos_2 l G b π μ f g t ht (by first | omega | (simp only [List.length_append, List.length_cons, List.length_nil]; omega)) p hp  x) gM_X12_coos gm_X12_310 gi_X12_coos gs_RX12_yX12_coos_yX12_coos rfl (h1 0 _ rfl) h1 rfl hl.1 ⟨rfl, rfl⟩ ⟨Nat.le_of_ble_eq_true rfl, Nat.le_of_ble_eq_true rfl⟩ ⟨Nat.zero_le _, Nat.zero_le _⟩ rfl (Nat.le_of_ble_eq_true rfl) dX12_coos_113) hS (by intro q hq; omega) (fun r8 H5 locs q6 k7 hS => ?_)
  obtain ⟨e9, h1⟩ := q6
  rw [e9]
  rw [← hQ]
  exact g_iret hx hb hr hlk hS dX12_coos_116 ⟨rfl, by rw [show gTrs μ ([30, 10]) = gTrs μ ([30, 10]) from by simp only [gTrs, List.foldl_append, List.foldl_cons, List.foldl_nil]]; exact h1⟩

set_option maxHeartbeats 4000000 in
set_option maxRecDepth 100000 in
theorem c_X12_coos_6a (l : Launch) (G : gW) (b : Nat) (π μ f : gPS) (g : Nat → Int64) (t : Nat) (ht : μ 4 1 = nI t) (htl : t ≤ 3000) (p : Nat) (hp : p < 6)  (x : Int32) : gCI l yX12_coos cX12_coos 4 .int (gRm 3 67) G [.ref b, .int (nI p), .int 6, .int x] (fun H => gSg G b (gLM G b π μ f g) H) (fun r H => r = (x + nI p) ^^^ π 3 p ∧ gSg G b (gLM G b π (gTrs μ ([71, 10])) f g) H) (fun q => b ≤ q ∧ q < b + 30) := by
  refine g_start (by decide) (Nat.le_of_ble_eq_true rfl) ?_
  intro pp_ ee_ s mm_ aa_ below meth cc_ ls Q hQ hX hE hP hl
  obtain ⟨hx, hb, hr, hml, hown, hT, hlk, hnm⟩ := hX
  have hK := hE.2.1
  have h1 := hP
  have hS : va_S (fun q => b ≤ q ∧ q < b + 30) s.heap s.heap [] := va_S.rf
  have hl : lv_has ls 4 [(0, .ref b), (1, .int (nI p)), (2, .int 6), (3, .int x)] := hl
  refine lv_iload_n hx hb dX12_coos_0 rfl (lv_at hl 2 rfl) ?_
  refine lv_tableIn (off := 74) (tgt := 75) hx hb dX12_coos_1 (by decide) (by decide) (by decide) (by decide) ?_
  refine lv_aload_n hx hb dX12_coos_75 rfl (lv_at hl 0 rfl) ?_
  refine lv_bipush (v := 71) hx hb dX12_coos_76 (by decide) ?_
  refine g_kv (g_runV (T := TX12) (ci := 12) (N := 45) (rest := []) hx hb hml hown hE hT (c_X12_ran l G b π μ f g t ht (by omega) 71) gM_X12_ran gm_X12_306 gi_X12_ran gs_RX12_yX12_ran_yX12_ran rfl (h1 0 _ rfl) h1 rfl hl.1 ⟨rfl, rfl⟩ ⟨Nat.le_of_ble_eq_true rfl, Nat.le_of_ble_eq_true rfl⟩ ⟨Nat.zero_le _, Nat.zero_le _⟩ rfl (Nat.le_of_ble_eq_true rfl) dX12_coos_78) hS (by intro q hq; omega) (fun H1 locs q2 k3 hS => ?_)
  have h1 := q2
  refine lv_aload_n hx hb dX12_coos_81 rfl (lv_at hl 0 rfl) ?_
  refine lv_iload_n hx hb dX12_coos_82 rfl (lv_at hl 1 rfl) ?_
  refine lv_iconst (v := 3) hx hb dX12_coos_83 (by decide) ?_
  refine lv_iload_n hx hb dX12_coos_84 rfl (lv_at hl 3 rfl) ?_
  refine g_ki (g_runV (T := TX12) (ci := 12) (N := 45) (rest := []) hx hb hml hown hE hT (c_X12_coos_3 l G b π (gTr1 μ 71) f g (t + 1) (gTr1_n ht) (by first | omega | (simp only [List.length_append, List.length_cons, List.length_nil]; omega)) p hp  x) gM_X12_coos gm_X12_310 gi_X12_coos gs_RX12_yX12_coos_yX12_coos rfl (h1 0 _ rfl) h1 rfl hl.1 ⟨rfl, rfl⟩ ⟨Nat.le_of_ble_eq_true rfl, Nat.le_of_ble_eq_true rfl⟩ ⟨Nat.zero_le _, Nat.zero_le _⟩ rfl (Nat.le_of_ble_eq_true rfl) dX12_coos_85) hS (by intro q hq; omega) (fun r8 H5 locs q6 k7 hS => ?_)
  obtain ⟨e9, h1⟩ := q6
  rw [e9]
  refine lv_aload_n hx hb dX12_coos_88 rfl (lv_at hl 0 rfl) ?_
  refine g_get (v := .ref (b + 4)) (T := TX12) (ci := 12) (N := 45) hx hb hown hK (gY_X12 hT) rfl (h1 0 _ rfl) 5 (by decide) (hT _ gf_X12_21) rfl dX12_coos_89 ?_
  refine lv_iload_n hx hb dX12_coos_92 rfl (lv_at hl 1 rfl) ?_
  refine g_ia (j := p) (v := π 3 p) hx hb hK (h1 4 _ rfl) rfl (by omega) (Nat.le_of_ble_eq_true rfl) rfl dX12_coos_93 ?_
  refine lv_ixor hx hb dX12_coos_94 ?_
  rw [← hQ]
  exact g_iret hx hb hr hlk hS dX12_coos_95 ⟨rfl, by rw [show gTrs μ ([71, 10]) = gTrs (gTr1 μ 71) ([10]) from by simp only [gTrs, List.foldl_append, List.foldl_cons, List.foldl_nil]]; exact h1⟩

theorem c_X12_coos_all (l : Launch) (G : gW) (b : Nat) (π μ f : gPS) (g : Nat → Int64) (t : Nat) (ht : μ 4 1 = nI t) (htl : t ≤ 3000) (p : Nat) (hp : p < 6)  (k : Nat) (hk7 : k < 7) (x : Int32) : gCI l yX12_coos cX12_coos 4 .int (gRm 3 67) G [.ref b, .int (nI p), .int (nI k), .int x] (fun H => gSg G b (gLM G b π μ f g) H) (fun r H => r = (gCoo p (π 3 p) k x).1 ∧ gSg G b (gLM G b π (gTrs μ (gCoo p (π 3 p) k x).2) f g) H) (fun q => b ≤ q ∧ q < b + 30) := by
  have h7 : k = 0 ∨ k = 1 ∨ k = 2 ∨ k = 3 ∨ k = 4 ∨ k = 5 ∨ k = 6 := by omega
  rcases h7 with rfl | rfl | rfl | rfl | rfl | rfl | rfl
  · exact c_X12_coos_0a l G b π μ f g t ht htl p hp  x
  · exact c_X12_coos_1a l G b π μ f g t ht htl p hp  x
  · exact c_X12_coos_2a l G b π μ f g t ht htl p hp  x
  · exact c_X12_coos_3a l G b π μ f g t ht htl p hp  x
  · exact c_X12_coos_4a l G b π μ f g t ht htl p hp  x
  · exact c_X12_coos_5a l G b π μ f g t ht htl p hp  x
  · exact c_X12_coos_6a l G b π μ f g t ht htl p hp  x
